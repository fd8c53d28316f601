theorem dRef_init_0 : decode mRef_init.2.1 0 = .ok (.aload_n 0, 1) := by decide +kernel
theorem dRef_init_1 : decode mRef_init.2.1 1 = .ok (.invokespecial 1, 3) := by decide +kernel
theorem dRef_init_4 : decode mRef_init.2.1 4 = .ok (.aload_n 0, 1) := by decide +kernel
theorem dRef_init_5 : decode mRef_init.2.1 5 = .ok (.sipush 576, 3) := by decide +kernel
theorem dRef_init_8 : decode mRef_init.2.1 8 = .ok (.newarray .int, 2) := by decide +kernel
theorem dRef_init_10 : decode mRef_init.2.1 10 = .ok (.putfield 7, 3) := by decide +kernel
theorem dRef_init_13 : decode mRef_init.2.1 13 = .ok (.aload_n 0, 1) := by decide +kernel
theorem dRef_init_14 : decode mRef_init.2.1 14 = .ok (.sipush 256, 3) := by decide +kernel
theorem dRef_init_17 : decode mRef_init.2.1 17 = .ok (.newarray .int, 2) := by decide +kernel
theorem dRef_init_19 : decode mRef_init.2.1 19 = .ok (.putfield 13, 3) := by decide +kernel
theorem dRef_init_22 : decode mRef_init.2.1 22 = .ok (.aload_n 0, 1) := by decide +kernel
theorem dRef_init_23 : decode mRef_init.2.1 23 = .ok (.iconst 3, 1) := by decide +kernel
theorem dRef_init_24 : decode mRef_init.2.1 24 = .ok (.newarray .int, 2) := by decide +kernel
theorem dRef_init_26 : decode mRef_init.2.1 26 = .ok (.putfield 16, 3) := by decide +kernel
theorem dRef_init_29 : decode mRef_init.2.1 29 = .ok (.aload_n 0, 1) := by decide +kernel
theorem dRef_init_30 : decode mRef_init.2.1 30 = .ok (.bipush 6, 2) := by decide +kernel
theorem dRef_init_32 : decode mRef_init.2.1 32 = .ok (.newarray .int, 2) := by decide +kernel
theorem dRef_init_34 : decode mRef_init.2.1 34 = .ok (.putfield 19, 3) := by decide +kernel
theorem dRef_init_37 : decode mRef_init.2.1 37 = .ok (.aload_n 0, 1) := by decide +kernel
theorem dRef_init_38 : decode mRef_init.2.1 38 = .ok (.bipush 6, 2) := by decide +kernel
theorem dRef_init_40 : decode mRef_init.2.1 40 = .ok (.newarray .int, 2) := by decide +kernel
theorem dRef_init_42 : decode mRef_init.2.1 42 = .ok (.putfield 22, 3) := by decide +kernel
theorem dRef_init_45 : decode mRef_init.2.1 45 = .ok (.aload_n 0, 1) := by decide +kernel
theorem dRef_init_46 : decode mRef_init.2.1 46 = .ok (.sipush 240, 3) := by decide +kernel
theorem dRef_init_49 : decode mRef_init.2.1 49 = .ok (.newarray .int, 2) := by decide +kernel
theorem dRef_init_51 : decode mRef_init.2.1 51 = .ok (.putfield 25, 3) := by decide +kernel
theorem dRef_init_54 : decode mRef_init.2.1 54 = .ok (.aload_n 0, 1) := by decide +kernel
theorem dRef_init_55 : decode mRef_init.2.1 55 = .ok (.sipush 576, 3) := by decide +kernel
theorem dRef_init_58 : decode mRef_init.2.1 58 = .ok (.newarray .int, 2) := by decide +kernel
theorem dRef_init_60 : decode mRef_init.2.1 60 = .ok (.putfield 28, 3) := by decide +kernel
theorem dRef_init_63 : decode mRef_init.2.1 63 = .ok (.aload_n 0, 1) := by decide +kernel
theorem dRef_init_64 : decode mRef_init.2.1 64 = .ok (.sipush 256, 3) := by decide +kernel
theorem dRef_init_67 : decode mRef_init.2.1 67 = .ok (.newarray .int, 2) := by decide +kernel
theorem dRef_init_69 : decode mRef_init.2.1 69 = .ok (.putfield 31, 3) := by decide +kernel
theorem dRef_init_72 : decode mRef_init.2.1 72 = .ok (.aload_n 0, 1) := by decide +kernel
theorem dRef_init_73 : decode mRef_init.2.1 73 = .ok (.iconst 3, 1) := by decide +kernel
theorem dRef_init_74 : decode mRef_init.2.1 74 = .ok (.newarray .int, 2) := by decide +kernel
theorem dRef_init_76 : decode mRef_init.2.1 76 = .ok (.putfield 34, 3) := by decide +kernel
theorem dRef_init_79 : decode mRef_init.2.1 79 = .ok (.aload_n 0, 1) := by decide +kernel
theorem dRef_init_80 : decode mRef_init.2.1 80 = .ok (.bipush 6, 2) := by decide +kernel
theorem dRef_init_82 : decode mRef_init.2.1 82 = .ok (.newarray .int, 2) := by decide +kernel
theorem dRef_init_84 : decode mRef_init.2.1 84 = .ok (.putfield 37, 3) := by decide +kernel
theorem dRef_init_87 : decode mRef_init.2.1 87 = .ok (.aload_n 0, 1) := by decide +kernel
theorem dRef_init_88 : decode mRef_init.2.1 88 = .ok (.bipush 6, 2) := by decide +kernel
theorem dRef_init_90 : decode mRef_init.2.1 90 = .ok (.newarray .int, 2) := by decide +kernel
theorem dRef_init_92 : decode mRef_init.2.1 92 = .ok (.putfield 40, 3) := by decide +kernel
theorem dRef_init_95 : decode mRef_init.2.1 95 = .ok (.aload_n 0, 1) := by decide +kernel
theorem dRef_init_96 : decode mRef_init.2.1 96 = .ok (.sipush 240, 3) := by decide +kernel
theorem dRef_init_99 : decode mRef_init.2.1 99 = .ok (.newarray .int, 2) := by decide +kernel
theorem dRef_init_101 : decode mRef_init.2.1 101 = .ok (.putfield 43, 3) := by decide +kernel
theorem dRef_init_104 : decode mRef_init.2.1 104 = .ok (.aload_n 0, 1) := by decide +kernel
theorem dRef_init_105 : decode mRef_init.2.1 105 = .ok (.sipush 2000, 3) := by decide +kernel
theorem dRef_init_108 : decode mRef_init.2.1 108 = .ok (.newarray .int, 2) := by decide +kernel
theorem dRef_init_110 : decode mRef_init.2.1 110 = .ok (.putfield 46, 3) := by decide +kernel
theorem dRef_init_113 : decode mRef_init.2.1 113 = .ok (.aload_n 0, 1) := by decide +kernel
theorem dRef_init_114 : decode mRef_init.2.1 114 = .ok (.sipush 2000, 3) := by decide +kernel
theorem dRef_init_117 : decode mRef_init.2.1 117 = .ok (.newarray .int, 2) := by decide +kernel
theorem dRef_init_119 : decode mRef_init.2.1 119 = .ok (.putfield 49, 3) := by decide +kernel
theorem dRef_init_122 : decode mRef_init.2.1 122 = .ok (.aload_n 0, 1) := by decide +kernel
theorem dRef_init_123 : decode mRef_init.2.1 123 = .ok (.sipush 2000, 3) := by decide +kernel
theorem dRef_init_126 : decode mRef_init.2.1 126 = .ok (.newarray .int, 2) := by decide +kernel
theorem dRef_init_128 : decode mRef_init.2.1 128 = .ok (.putfield 52, 3) := by decide +kernel
theorem dRef_init_131 : decode mRef_init.2.1 131 = .ok (.aload_n 0, 1) := by decide +kernel
theorem dRef_init_132 : decode mRef_init.2.1 132 = .ok (.iconst 3, 1) := by decide +kernel
theorem dRef_init_133 : decode mRef_init.2.1 133 = .ok (.newarray .boolean, 2) := by decide +kernel
theorem dRef_init_135 : decode mRef_init.2.1 135 = .ok (.putfield 55, 3) := by decide +kernel
theorem dRef_init_138 : decode mRef_init.2.1 138 = .ok (.return_, 1) := by decide +kernel
theorem dRef_thrown_0 : decode mRef_thrown.2.1 0 = .ok (.aload_n 0, 1) := by decide +kernel
theorem dRef_thrown_1 : decode mRef_thrown.2.1 1 = .ok (.getfield 59, 3) := by decide +kernel
theorem dRef_thrown_4 : decode mRef_thrown.2.1 4 = .ok (.ireturn, 1) := by decide +kernel
theorem dRef_isGood_0 : decode mRef_isGood.2.1 0 = .ok (.iload_n 3, 1) := by decide +kernel
theorem dRef_isGood_1 : decode mRef_isGood.2.1 1 = .ok (.ifCond .eq 8, 3) := by decide +kernel
theorem dRef_isGood_4 : decode mRef_isGood.2.1 4 = .ok (.iload_n 3, 1) := by decide +kernel
theorem dRef_isGood_5 : decode mRef_isGood.2.1 5 = .ok (.iconst 3, 1) := by decide +kernel
theorem dRef_isGood_6 : decode mRef_isGood.2.1 6 = .ok (.if_icmp .ne 7, 3) := by decide +kernel
theorem dRef_isGood_9 : decode mRef_isGood.2.1 9 = .ok (.iconst 1, 1) := by decide +kernel
theorem dRef_isGood_10 : decode mRef_isGood.2.1 10 = .ok (.goto 4, 3) := by decide +kernel
theorem dRef_isGood_13 : decode mRef_isGood.2.1 13 = .ok (.iconst 0, 1) := by decide +kernel
theorem dRef_isGood_14 : decode mRef_isGood.2.1 14 = .ok (.istore 4, 2) := by decide +kernel
theorem dRef_isGood_16 : decode mRef_isGood.2.1 16 = .ok (.iload_n 3, 1) := by decide +kernel
theorem dRef_isGood_17 : decode mRef_isGood.2.1 17 = .ok (.iconst 2, 1) := by decide +kernel
theorem dRef_isGood_18 : decode mRef_isGood.2.1 18 = .ok (.if_icmp .eq 14, 3) := by decide +kernel
theorem dRef_isGood_21 : decode mRef_isGood.2.1 21 = .ok (.iload_n 3, 1) := by decide +kernel
theorem dRef_isGood_22 : decode mRef_isGood.2.1 22 = .ok (.iconst 4, 1) := by decide +kernel
theorem dRef_isGood_23 : decode mRef_isGood.2.1 23 = .ok (.if_icmp .eq 9, 3) := by decide +kernel
theorem dRef_isGood_26 : decode mRef_isGood.2.1 26 = .ok (.iload_n 3, 1) := by decide +kernel
theorem dRef_isGood_27 : decode mRef_isGood.2.1 27 = .ok (.bipush 6, 2) := by decide +kernel
theorem dRef_isGood_29 : decode mRef_isGood.2.1 29 = .ok (.if_icmp .ne 7, 3) := by decide +kernel
theorem dRef_isGood_32 : decode mRef_isGood.2.1 32 = .ok (.iconst 1, 1) := by decide +kernel
theorem dRef_isGood_33 : decode mRef_isGood.2.1 33 = .ok (.goto 4, 3) := by decide +kernel
theorem dRef_isGood_36 : decode mRef_isGood.2.1 36 = .ok (.iconst 0, 1) := by decide +kernel
theorem dRef_isGood_37 : decode mRef_isGood.2.1 37 = .ok (.istore 5, 2) := by decide +kernel
theorem dRef_isGood_39 : decode mRef_isGood.2.1 39 = .ok (.iload_n 0, 1) := by decide +kernel
theorem dRef_isGood_40 : decode mRef_isGood.2.1 40 = .ok (.iconst 1, 1) := by decide +kernel
theorem dRef_isGood_41 : decode mRef_isGood.2.1 41 = .ok (.if_icmp .lt 61, 3) := by decide +kernel
theorem dRef_isGood_44 : decode mRef_isGood.2.1 44 = .ok (.iload_n 0, 1) := by decide +kernel
theorem dRef_isGood_45 : decode mRef_isGood.2.1 45 = .ok (.bipush 12, 2) := by decide +kernel
theorem dRef_isGood_47 : decode mRef_isGood.2.1 47 = .ok (.if_icmp .gt 55, 3) := by decide +kernel
theorem dRef_isGood_50 : decode mRef_isGood.2.1 50 = .ok (.iload_n 1, 1) := by decide +kernel
theorem dRef_isGood_51 : decode mRef_isGood.2.1 51 = .ok (.iconst 1, 1) := by decide +kernel
theorem dRef_isGood_52 : decode mRef_isGood.2.1 52 = .ok (.if_icmp .lt 50, 3) := by decide +kernel
theorem dRef_isGood_55 : decode mRef_isGood.2.1 55 = .ok (.iload_n 1, 1) := by decide +kernel
theorem dRef_isGood_56 : decode mRef_isGood.2.1 56 = .ok (.bipush 12, 2) := by decide +kernel
theorem dRef_isGood_58 : decode mRef_isGood.2.1 58 = .ok (.if_icmp .gt 44, 3) := by decide +kernel
theorem dRef_isGood_61 : decode mRef_isGood.2.1 61 = .ok (.iload 5, 2) := by decide +kernel
theorem dRef_isGood_63 : decode mRef_isGood.2.1 63 = .ok (.ifCond .eq 9, 3) := by decide +kernel
theorem dRef_isGood_66 : decode mRef_isGood.2.1 66 = .ok (.iload_n 2, 1) := by decide +kernel
theorem dRef_isGood_67 : decode mRef_isGood.2.1 67 = .ok (.bipush 8, 2) := by decide +kernel
theorem dRef_isGood_69 : decode mRef_isGood.2.1 69 = .ok (.if_icmp .eq 29, 3) := by decide +kernel
theorem dRef_isGood_72 : decode mRef_isGood.2.1 72 = .ok (.iload 4, 2) := by decide +kernel
theorem dRef_isGood_74 : decode mRef_isGood.2.1 74 = .ok (.ifCond .eq 28, 3) := by decide +kernel
theorem dRef_isGood_77 : decode mRef_isGood.2.1 77 = .ok (.iload_n 2, 1) := by decide +kernel
theorem dRef_isGood_78 : decode mRef_isGood.2.1 78 = .ok (.iconst 1, 1) := by decide +kernel
theorem dRef_isGood_79 : decode mRef_isGood.2.1 79 = .ok (.if_icmp .eq 19, 3) := by decide +kernel
theorem dRef_isGood_82 : decode mRef_isGood.2.1 82 = .ok (.iload_n 2, 1) := by decide +kernel
theorem dRef_isGood_83 : decode mRef_isGood.2.1 83 = .ok (.iconst 2, 1) := by decide +kernel
theorem dRef_isGood_84 : decode mRef_isGood.2.1 84 = .ok (.if_icmp .eq 14, 3) := by decide +kernel
theorem dRef_isGood_87 : decode mRef_isGood.2.1 87 = .ok (.iload_n 2, 1) := by decide +kernel
theorem dRef_isGood_88 : decode mRef_isGood.2.1 88 = .ok (.iconst 4, 1) := by decide +kernel
theorem dRef_isGood_89 : decode mRef_isGood.2.1 89 = .ok (.if_icmp .eq 9, 3) := by decide +kernel
theorem dRef_isGood_92 : decode mRef_isGood.2.1 92 = .ok (.iload_n 2, 1) := by decide +kernel
theorem dRef_isGood_93 : decode mRef_isGood.2.1 93 = .ok (.bipush 8, 2) := by decide +kernel
theorem dRef_isGood_95 : decode mRef_isGood.2.1 95 = .ok (.if_icmp .ne 7, 3) := by decide +kernel
theorem dRef_isGood_98 : decode mRef_isGood.2.1 98 = .ok (.iconst 1, 1) := by decide +kernel
theorem dRef_isGood_99 : decode mRef_isGood.2.1 99 = .ok (.goto 4, 3) := by decide +kernel
theorem dRef_isGood_102 : decode mRef_isGood.2.1 102 = .ok (.iconst 0, 1) := by decide +kernel
theorem dRef_isGood_103 : decode mRef_isGood.2.1 103 = .ok (.ireturn, 1) := by decide +kernel
theorem dRef_channelsOf_0 : decode mRef_channelsOf.2.1 0 = .ok (.iload_n 0, 1) := by decide +kernel
theorem dRef_channelsOf_1 : decode mRef_channelsOf.2.1 1 = .ok (.iconst 2, 1) := by decide +kernel
theorem dRef_channelsOf_2 : decode mRef_channelsOf.2.1 2 = .ok (.if_icmp .ne 7, 3) := by decide +kernel
theorem dRef_channelsOf_5 : decode mRef_channelsOf.2.1 5 = .ok (.iconst 3, 1) := by decide +kernel
theorem dRef_channelsOf_6 : decode mRef_channelsOf.2.1 6 = .ok (.goto 23, 3) := by decide +kernel
theorem dRef_channelsOf_9 : decode mRef_channelsOf.2.1 9 = .ok (.iload_n 0, 1) := by decide +kernel
theorem dRef_channelsOf_10 : decode mRef_channelsOf.2.1 10 = .ok (.iconst 4, 1) := by decide +kernel
theorem dRef_channelsOf_11 : decode mRef_channelsOf.2.1 11 = .ok (.if_icmp .ne 7, 3) := by decide +kernel
theorem dRef_channelsOf_14 : decode mRef_channelsOf.2.1 14 = .ok (.iconst 2, 1) := by decide +kernel
theorem dRef_channelsOf_15 : decode mRef_channelsOf.2.1 15 = .ok (.goto 14, 3) := by decide +kernel
theorem dRef_channelsOf_18 : decode mRef_channelsOf.2.1 18 = .ok (.iload_n 0, 1) := by decide +kernel
theorem dRef_channelsOf_19 : decode mRef_channelsOf.2.1 19 = .ok (.bipush 6, 2) := by decide +kernel
theorem dRef_channelsOf_21 : decode mRef_channelsOf.2.1 21 = .ok (.if_icmp .ne 7, 3) := by decide +kernel
theorem dRef_channelsOf_24 : decode mRef_channelsOf.2.1 24 = .ok (.iconst 4, 1) := by decide +kernel
theorem dRef_channelsOf_25 : decode mRef_channelsOf.2.1 25 = .ok (.goto 4, 3) := by decide +kernel
theorem dRef_channelsOf_28 : decode mRef_channelsOf.2.1 28 = .ok (.iconst 1, 1) := by decide +kernel
theorem dRef_channelsOf_29 : decode mRef_channelsOf.2.1 29 = .ok (.ireturn, 1) := by decide +kernel
theorem dRef_mostEntries_0 : decode mRef_mostEntries.2.1 0 = .ok (.iload_n 0, 1) := by decide +kernel
theorem dRef_mostEntries_1 : decode mRef_mostEntries.2.1 1 = .ok (.bipush 8, 2) := by decide +kernel
theorem dRef_mostEntries_3 : decode mRef_mostEntries.2.1 3 = .ok (.if_icmp .ne 8, 3) := by decide +kernel
theorem dRef_mostEntries_6 : decode mRef_mostEntries.2.1 6 = .ok (.bipush 64, 2) := by decide +kernel
theorem dRef_mostEntries_8 : decode mRef_mostEntries.2.1 8 = .ok (.goto 6, 3) := by decide +kernel
theorem dRef_mostEntries_11 : decode mRef_mostEntries.2.1 11 = .ok (.iconst 1, 1) := by decide +kernel
theorem dRef_mostEntries_12 : decode mRef_mostEntries.2.1 12 = .ok (.iload_n 0, 1) := by decide +kernel
theorem dRef_mostEntries_13 : decode mRef_mostEntries.2.1 13 = .ok (.ishl, 1) := by decide +kernel
theorem dRef_mostEntries_14 : decode mRef_mostEntries.2.1 14 = .ok (.ireturn, 1) := by decide +kernel
theorem dRef_head_0 : decode mRef_head.2.1 0 = .ok (.aload_n 0, 1) := by decide +kernel
theorem dRef_head_1 : decode mRef_head.2.1 1 = .ok (.iload_n 1, 1) := by decide +kernel
theorem dRef_head_2 : decode mRef_head.2.1 2 = .ok (.iload_n 2, 1) := by decide +kernel
theorem dRef_head_3 : decode mRef_head.2.1 3 = .ok (.iload_n 3, 1) := by decide +kernel
theorem dRef_head_4 : decode mRef_head.2.1 4 = .ok (.iload 4, 2) := by decide +kernel
theorem dRef_head_6 : decode mRef_head.2.1 6 = .ok (.invokestatic 63, 3) := by decide +kernel
theorem dRef_head_9 : decode mRef_head.2.1 9 = .ok (.ifCond .eq 7, 3) := by decide +kernel
theorem dRef_head_12 : decode mRef_head.2.1 12 = .ok (.iconst 0, 1) := by decide +kernel
theorem dRef_head_13 : decode mRef_head.2.1 13 = .ok (.goto 4, 3) := by decide +kernel
theorem dRef_head_16 : decode mRef_head.2.1 16 = .ok (.iconst 1, 1) := by decide +kernel
theorem dRef_head_17 : decode mRef_head.2.1 17 = .ok (.putfield 59, 3) := by decide +kernel
theorem dRef_head_20 : decode mRef_head.2.1 20 = .ok (.aload_n 0, 1) := by decide +kernel
theorem dRef_head_21 : decode mRef_head.2.1 21 = .ok (.getfield 59, 3) := by decide +kernel
theorem dRef_head_24 : decode mRef_head.2.1 24 = .ok (.ifCond .le 4, 3) := by decide +kernel
theorem dRef_head_27 : decode mRef_head.2.1 27 = .ok (.return_, 1) := by decide +kernel
theorem dRef_head_28 : decode mRef_head.2.1 28 = .ok (.aload_n 0, 1) := by decide +kernel
theorem dRef_head_29 : decode mRef_head.2.1 29 = .ok (.iconst 1, 1) := by decide +kernel
theorem dRef_head_30 : decode mRef_head.2.1 30 = .ok (.putfield 67, 3) := by decide +kernel
theorem dRef_head_33 : decode mRef_head.2.1 33 = .ok (.aload_n 0, 1) := by decide +kernel
theorem dRef_head_34 : decode mRef_head.2.1 34 = .ok (.iload_n 1, 1) := by decide +kernel
theorem dRef_head_35 : decode mRef_head.2.1 35 = .ok (.putfield 71, 3) := by decide +kernel
theorem dRef_head_38 : decode mRef_head.2.1 38 = .ok (.aload_n 0, 1) := by decide +kernel
theorem dRef_head_39 : decode mRef_head.2.1 39 = .ok (.iload_n 2, 1) := by decide +kernel
theorem dRef_head_40 : decode mRef_head.2.1 40 = .ok (.putfield 74, 3) := by decide +kernel
theorem dRef_head_43 : decode mRef_head.2.1 43 = .ok (.aload_n 0, 1) := by decide +kernel
theorem dRef_head_44 : decode mRef_head.2.1 44 = .ok (.iload_n 3, 1) := by decide +kernel
theorem dRef_head_45 : decode mRef_head.2.1 45 = .ok (.putfield 77, 3) := by decide +kernel
theorem dRef_head_48 : decode mRef_head.2.1 48 = .ok (.aload_n 0, 1) := by decide +kernel
theorem dRef_head_49 : decode mRef_head.2.1 49 = .ok (.iload 4, 2) := by decide +kernel
theorem dRef_head_51 : decode mRef_head.2.1 51 = .ok (.putfield 80, 3) := by decide +kernel
theorem dRef_head_54 : decode mRef_head.2.1 54 = .ok (.iconst 0, 1) := by decide +kernel
theorem dRef_head_55 : decode mRef_head.2.1 55 = .ok (.istore 5, 2) := by decide +kernel
theorem dRef_head_57 : decode mRef_head.2.1 57 = .ok (.iload 5, 2) := by decide +kernel
theorem dRef_head_59 : decode mRef_head.2.1 59 = .ok (.sipush 576, 3) := by decide +kernel
theorem dRef_head_62 : decode mRef_head.2.1 62 = .ok (.if_icmp .ge 17, 3) := by decide +kernel
theorem dRef_head_65 : decode mRef_head.2.1 65 = .ok (.aload_n 0, 1) := by decide +kernel
theorem dRef_head_66 : decode mRef_head.2.1 66 = .ok (.getfield 7, 3) := by decide +kernel
theorem dRef_head_69 : decode mRef_head.2.1 69 = .ok (.iload 5, 2) := by decide +kernel
theorem dRef_head_71 : decode mRef_head.2.1 71 = .ok (.iconst 0, 1) := by decide +kernel
theorem dRef_head_72 : decode mRef_head.2.1 72 = .ok (.iastore, 1) := by decide +kernel
theorem dRef_head_73 : decode mRef_head.2.1 73 = .ok (.iinc 5 1, 3) := by decide +kernel
theorem dRef_head_76 : decode mRef_head.2.1 76 = .ok (.goto (-19), 3) := by decide +kernel
theorem dRef_head_79 : decode mRef_head.2.1 79 = .ok (.aload_n 0, 1) := by decide +kernel
theorem dRef_head_80 : decode mRef_head.2.1 80 = .ok (.iconst 0, 1) := by decide +kernel
theorem dRef_head_81 : decode mRef_head.2.1 81 = .ok (.putfield 83, 3) := by decide +kernel
theorem dRef_head_84 : decode mRef_head.2.1 84 = .ok (.aload_n 0, 1) := by decide +kernel
theorem dRef_head_85 : decode mRef_head.2.1 85 = .ok (.iconst 0, 1) := by decide +kernel
theorem dRef_head_86 : decode mRef_head.2.1 86 = .ok (.putfield 86, 3) := by decide +kernel
theorem dRef_head_89 : decode mRef_head.2.1 89 = .ok (.iconst 0, 1) := by decide +kernel
theorem dRef_head_90 : decode mRef_head.2.1 90 = .ok (.istore 5, 2) := by decide +kernel
theorem dRef_head_92 : decode mRef_head.2.1 92 = .ok (.iload 5, 2) := by decide +kernel
theorem dRef_head_94 : decode mRef_head.2.1 94 = .ok (.iconst 3, 1) := by decide +kernel
theorem dRef_head_95 : decode mRef_head.2.1 95 = .ok (.if_icmp .ge 17, 3) := by decide +kernel
theorem dRef_head_98 : decode mRef_head.2.1 98 = .ok (.aload_n 0, 1) := by decide +kernel
theorem dRef_head_99 : decode mRef_head.2.1 99 = .ok (.getfield 16, 3) := by decide +kernel
theorem dRef_head_102 : decode mRef_head.2.1 102 = .ok (.iload 5, 2) := by decide +kernel
theorem dRef_head_104 : decode mRef_head.2.1 104 = .ok (.iconst (-1), 1) := by decide +kernel
theorem dRef_head_105 : decode mRef_head.2.1 105 = .ok (.iastore, 1) := by decide +kernel
theorem dRef_head_106 : decode mRef_head.2.1 106 = .ok (.iinc 5 1, 3) := by decide +kernel
theorem dRef_head_109 : decode mRef_head.2.1 109 = .ok (.goto (-17), 3) := by decide +kernel
theorem dRef_head_112 : decode mRef_head.2.1 112 = .ok (.return_, 1) := by decide +kernel
theorem dRef_isByte_0 : decode mRef_isByte.2.1 0 = .ok (.iload_n 0, 1) := by decide +kernel
theorem dRef_isByte_1 : decode mRef_isByte.2.1 1 = .ok (.ifCond .lt 14, 3) := by decide +kernel
theorem dRef_isByte_4 : decode mRef_isByte.2.1 4 = .ok (.iload_n 0, 1) := by decide +kernel
theorem dRef_isByte_5 : decode mRef_isByte.2.1 5 = .ok (.sipush 255, 3) := by decide +kernel
theorem dRef_isByte_8 : decode mRef_isByte.2.1 8 = .ok (.if_icmp .gt 7, 3) := by decide +kernel
theorem dRef_isByte_11 : decode mRef_isByte.2.1 11 = .ok (.iconst 1, 1) := by decide +kernel
theorem dRef_isByte_12 : decode mRef_isByte.2.1 12 = .ok (.goto 4, 3) := by decide +kernel
theorem dRef_isByte_15 : decode mRef_isByte.2.1 15 = .ok (.iconst 0, 1) := by decide +kernel
theorem dRef_isByte_16 : decode mRef_isByte.2.1 16 = .ok (.ireturn, 1) := by decide +kernel
theorem dRef_change_0 : decode mRef_change.2.1 0 = .ok (.iconst 0, 1) := by decide +kernel
theorem dRef_change_1 : decode mRef_change.2.1 1 = .ok (.istore_n 1, 1) := by decide +kernel
theorem dRef_change_2 : decode mRef_change.2.1 2 = .ok (.iconst 0, 1) := by decide +kernel
theorem dRef_change_3 : decode mRef_change.2.1 3 = .ok (.istore_n 2, 1) := by decide +kernel
theorem dRef_change_4 : decode mRef_change.2.1 4 = .ok (.iload_n 2, 1) := by decide +kernel
theorem dRef_change_5 : decode mRef_change.2.1 5 = .ok (.aload_n 0, 1) := by decide +kernel
theorem dRef_change_6 : decode mRef_change.2.1 6 = .ok (.getfield 86, 3) := by decide +kernel
theorem dRef_change_9 : decode mRef_change.2.1 9 = .ok (.if_icmp .ge 87, 3) := by decide +kernel
theorem dRef_change_12 : decode mRef_change.2.1 12 = .ok (.aload_n 0, 1) := by decide +kernel
theorem dRef_change_13 : decode mRef_change.2.1 13 = .ok (.getfield 19, 3) := by decide +kernel
theorem dRef_change_16 : decode mRef_change.2.1 16 = .ok (.iload_n 2, 1) := by decide +kernel
theorem dRef_change_17 : decode mRef_change.2.1 17 = .ok (.iaload, 1) := by decide +kernel
theorem dRef_change_18 : decode mRef_change.2.1 18 = .ok (.sipush 256, 3) := by decide +kernel
theorem dRef_change_21 : decode mRef_change.2.1 21 = .ok (.irem, 1) := by decide +kernel
theorem dRef_change_22 : decode mRef_change.2.1 22 = .ok (.bipush 90, 2) := by decide +kernel
theorem dRef_change_24 : decode mRef_change.2.1 24 = .ok (.if_icmp .le 66, 3) := by decide +kernel
theorem dRef_change_27 : decode mRef_change.2.1 27 = .ok (.aload_n 0, 1) := by decide +kernel
theorem dRef_change_28 : decode mRef_change.2.1 28 = .ok (.getfield 19, 3) := by decide +kernel
theorem dRef_change_31 : decode mRef_change.2.1 31 = .ok (.iload_n 1, 1) := by decide +kernel
theorem dRef_change_32 : decode mRef_change.2.1 32 = .ok (.aload_n 0, 1) := by decide +kernel
theorem dRef_change_33 : decode mRef_change.2.1 33 = .ok (.getfield 19, 3) := by decide +kernel
theorem dRef_change_36 : decode mRef_change.2.1 36 = .ok (.iload_n 2, 1) := by decide +kernel
theorem dRef_change_37 : decode mRef_change.2.1 37 = .ok (.iaload, 1) := by decide +kernel
theorem dRef_change_38 : decode mRef_change.2.1 38 = .ok (.iastore, 1) := by decide +kernel
theorem dRef_change_39 : decode mRef_change.2.1 39 = .ok (.aload_n 0, 1) := by decide +kernel
theorem dRef_change_40 : decode mRef_change.2.1 40 = .ok (.getfield 22, 3) := by decide +kernel
theorem dRef_change_43 : decode mRef_change.2.1 43 = .ok (.iload_n 1, 1) := by decide +kernel
theorem dRef_change_44 : decode mRef_change.2.1 44 = .ok (.aload_n 0, 1) := by decide +kernel
theorem dRef_change_45 : decode mRef_change.2.1 45 = .ok (.getfield 22, 3) := by decide +kernel
theorem dRef_change_48 : decode mRef_change.2.1 48 = .ok (.iload_n 2, 1) := by decide +kernel
theorem dRef_change_49 : decode mRef_change.2.1 49 = .ok (.iaload, 1) := by decide +kernel
theorem dRef_change_50 : decode mRef_change.2.1 50 = .ok (.iastore, 1) := by decide +kernel
theorem dRef_change_51 : decode mRef_change.2.1 51 = .ok (.iconst 0, 1) := by decide +kernel
theorem dRef_change_52 : decode mRef_change.2.1 52 = .ok (.istore_n 3, 1) := by decide +kernel
theorem dRef_change_53 : decode mRef_change.2.1 53 = .ok (.iload_n 3, 1) := by decide +kernel
theorem dRef_change_54 : decode mRef_change.2.1 54 = .ok (.bipush 40, 2) := by decide +kernel
theorem dRef_change_56 : decode mRef_change.2.1 56 = .ok (.if_icmp .ge 31, 3) := by decide +kernel
theorem dRef_change_59 : decode mRef_change.2.1 59 = .ok (.aload_n 0, 1) := by decide +kernel
theorem dRef_change_60 : decode mRef_change.2.1 60 = .ok (.getfield 25, 3) := by decide +kernel
theorem dRef_change_63 : decode mRef_change.2.1 63 = .ok (.bipush 40, 2) := by decide +kernel
theorem dRef_change_65 : decode mRef_change.2.1 65 = .ok (.iload_n 1, 1) := by decide +kernel
theorem dRef_change_66 : decode mRef_change.2.1 66 = .ok (.imul, 1) := by decide +kernel
theorem dRef_change_67 : decode mRef_change.2.1 67 = .ok (.iload_n 3, 1) := by decide +kernel
theorem dRef_change_68 : decode mRef_change.2.1 68 = .ok (.iadd, 1) := by decide +kernel
theorem dRef_change_69 : decode mRef_change.2.1 69 = .ok (.aload_n 0, 1) := by decide +kernel
theorem dRef_change_70 : decode mRef_change.2.1 70 = .ok (.getfield 25, 3) := by decide +kernel
theorem dRef_change_73 : decode mRef_change.2.1 73 = .ok (.bipush 40, 2) := by decide +kernel
theorem dRef_change_75 : decode mRef_change.2.1 75 = .ok (.iload_n 2, 1) := by decide +kernel
theorem dRef_change_76 : decode mRef_change.2.1 76 = .ok (.imul, 1) := by decide +kernel
theorem dRef_change_77 : decode mRef_change.2.1 77 = .ok (.iload_n 3, 1) := by decide +kernel
theorem dRef_change_78 : decode mRef_change.2.1 78 = .ok (.iadd, 1) := by decide +kernel
theorem dRef_change_79 : decode mRef_change.2.1 79 = .ok (.iaload, 1) := by decide +kernel
theorem dRef_change_80 : decode mRef_change.2.1 80 = .ok (.iastore, 1) := by decide +kernel
theorem dRef_change_81 : decode mRef_change.2.1 81 = .ok (.iinc 3 1, 3) := by decide +kernel
theorem dRef_change_84 : decode mRef_change.2.1 84 = .ok (.goto (-31), 3) := by decide +kernel
theorem dRef_change_87 : decode mRef_change.2.1 87 = .ok (.iinc 1 1, 3) := by decide +kernel
theorem dRef_change_90 : decode mRef_change.2.1 90 = .ok (.iinc 2 1, 3) := by decide +kernel
theorem dRef_change_93 : decode mRef_change.2.1 93 = .ok (.goto (-89), 3) := by decide +kernel
theorem dRef_change_96 : decode mRef_change.2.1 96 = .ok (.aload_n 0, 1) := by decide +kernel
theorem dRef_change_97 : decode mRef_change.2.1 97 = .ok (.iload_n 1, 1) := by decide +kernel
theorem dRef_change_98 : decode mRef_change.2.1 98 = .ok (.putfield 86, 3) := by decide +kernel
theorem dRef_change_101 : decode mRef_change.2.1 101 = .ok (.return_, 1) := by decide +kernel
theorem dRef_colour_0 : decode mRef_colour.2.1 0 = .ok (.aload_n 0, 1) := by decide +kernel
theorem dRef_colour_1 : decode mRef_colour.2.1 1 = .ok (.aload_n 0, 1) := by decide +kernel
theorem dRef_colour_2 : decode mRef_colour.2.1 2 = .ok (.getfield 67, 3) := by decide +kernel
theorem dRef_colour_5 : decode mRef_colour.2.1 5 = .ok (.ifCond .eq 11, 3) := by decide +kernel
theorem dRef_colour_8 : decode mRef_colour.2.1 8 = .ok (.aload_n 0, 1) := by decide +kernel
theorem dRef_colour_9 : decode mRef_colour.2.1 9 = .ok (.getfield 80, 3) := by decide +kernel
theorem dRef_colour_12 : decode mRef_colour.2.1 12 = .ok (.iconst 3, 1) := by decide +kernel
theorem dRef_colour_13 : decode mRef_colour.2.1 13 = .ok (.if_icmp .eq 7, 3) := by decide +kernel
theorem dRef_colour_16 : decode mRef_colour.2.1 16 = .ok (.iconst 1, 1) := by decide +kernel
theorem dRef_colour_17 : decode mRef_colour.2.1 17 = .ok (.goto 55, 3) := by decide +kernel
theorem dRef_colour_20 : decode mRef_colour.2.1 20 = .ok (.iload_n 1, 1) := by decide +kernel
theorem dRef_colour_21 : decode mRef_colour.2.1 21 = .ok (.invokestatic 89, 3) := by decide +kernel
theorem dRef_colour_24 : decode mRef_colour.2.1 24 = .ok (.ifCond .eq 25, 3) := by decide +kernel
theorem dRef_colour_27 : decode mRef_colour.2.1 27 = .ok (.iload_n 2, 1) := by decide +kernel
theorem dRef_colour_28 : decode mRef_colour.2.1 28 = .ok (.invokestatic 89, 3) := by decide +kernel
theorem dRef_colour_31 : decode mRef_colour.2.1 31 = .ok (.ifCond .eq 18, 3) := by decide +kernel
theorem dRef_colour_34 : decode mRef_colour.2.1 34 = .ok (.iload_n 3, 1) := by decide +kernel
theorem dRef_colour_35 : decode mRef_colour.2.1 35 = .ok (.invokestatic 89, 3) := by decide +kernel
theorem dRef_colour_38 : decode mRef_colour.2.1 38 = .ok (.ifCond .eq 11, 3) := by decide +kernel
theorem dRef_colour_41 : decode mRef_colour.2.1 41 = .ok (.iload 4, 2) := by decide +kernel
theorem dRef_colour_43 : decode mRef_colour.2.1 43 = .ok (.invokestatic 89, 3) := by decide +kernel
theorem dRef_colour_46 : decode mRef_colour.2.1 46 = .ok (.ifCond .ne 7, 3) := by decide +kernel
theorem dRef_colour_49 : decode mRef_colour.2.1 49 = .ok (.iconst 2, 1) := by decide +kernel
theorem dRef_colour_50 : decode mRef_colour.2.1 50 = .ok (.goto 22, 3) := by decide +kernel
theorem dRef_colour_53 : decode mRef_colour.2.1 53 = .ok (.aload_n 0, 1) := by decide +kernel
theorem dRef_colour_54 : decode mRef_colour.2.1 54 = .ok (.getfield 83, 3) := by decide +kernel
theorem dRef_colour_57 : decode mRef_colour.2.1 57 = .ok (.aload_n 0, 1) := by decide +kernel
theorem dRef_colour_58 : decode mRef_colour.2.1 58 = .ok (.getfield 77, 3) := by decide +kernel
theorem dRef_colour_61 : decode mRef_colour.2.1 61 = .ok (.invokestatic 93, 3) := by decide +kernel
theorem dRef_colour_64 : decode mRef_colour.2.1 64 = .ok (.if_icmp .ne 7, 3) := by decide +kernel
theorem dRef_colour_67 : decode mRef_colour.2.1 67 = .ok (.iconst 3, 1) := by decide +kernel
theorem dRef_colour_68 : decode mRef_colour.2.1 68 = .ok (.goto 4, 3) := by decide +kernel
theorem dRef_colour_71 : decode mRef_colour.2.1 71 = .ok (.iconst 0, 1) := by decide +kernel
theorem dRef_colour_72 : decode mRef_colour.2.1 72 = .ok (.putfield 59, 3) := by decide +kernel
theorem dRef_colour_75 : decode mRef_colour.2.1 75 = .ok (.aload_n 0, 1) := by decide +kernel
theorem dRef_colour_76 : decode mRef_colour.2.1 76 = .ok (.getfield 59, 3) := by decide +kernel
theorem dRef_colour_79 : decode mRef_colour.2.1 79 = .ok (.ifCond .le 5, 3) := by decide +kernel
theorem dRef_colour_82 : decode mRef_colour.2.1 82 = .ok (.iconst 0, 1) := by decide +kernel
theorem dRef_colour_83 : decode mRef_colour.2.1 83 = .ok (.ireturn, 1) := by decide +kernel
theorem dRef_colour_84 : decode mRef_colour.2.1 84 = .ok (.aload_n 0, 1) := by decide +kernel
theorem dRef_colour_85 : decode mRef_colour.2.1 85 = .ok (.getfield 13, 3) := by decide +kernel
theorem dRef_colour_88 : decode mRef_colour.2.1 88 = .ok (.iconst 4, 1) := by decide +kernel
theorem dRef_colour_89 : decode mRef_colour.2.1 89 = .ok (.aload_n 0, 1) := by decide +kernel
theorem dRef_colour_90 : decode mRef_colour.2.1 90 = .ok (.getfield 83, 3) := by decide +kernel
theorem dRef_colour_93 : decode mRef_colour.2.1 93 = .ok (.imul, 1) := by decide +kernel
theorem dRef_colour_94 : decode mRef_colour.2.1 94 = .ok (.iload_n 1, 1) := by decide +kernel
theorem dRef_colour_95 : decode mRef_colour.2.1 95 = .ok (.iastore, 1) := by decide +kernel
theorem dRef_colour_96 : decode mRef_colour.2.1 96 = .ok (.aload_n 0, 1) := by decide +kernel
theorem dRef_colour_97 : decode mRef_colour.2.1 97 = .ok (.getfield 13, 3) := by decide +kernel
theorem dRef_colour_100 : decode mRef_colour.2.1 100 = .ok (.iconst 4, 1) := by decide +kernel
theorem dRef_colour_101 : decode mRef_colour.2.1 101 = .ok (.aload_n 0, 1) := by decide +kernel
theorem dRef_colour_102 : decode mRef_colour.2.1 102 = .ok (.getfield 83, 3) := by decide +kernel
theorem dRef_colour_105 : decode mRef_colour.2.1 105 = .ok (.imul, 1) := by decide +kernel
theorem dRef_colour_106 : decode mRef_colour.2.1 106 = .ok (.iconst 1, 1) := by decide +kernel
theorem dRef_colour_107 : decode mRef_colour.2.1 107 = .ok (.iadd, 1) := by decide +kernel
theorem dRef_colour_108 : decode mRef_colour.2.1 108 = .ok (.iload_n 2, 1) := by decide +kernel
theorem dRef_colour_109 : decode mRef_colour.2.1 109 = .ok (.iastore, 1) := by decide +kernel
theorem dRef_colour_110 : decode mRef_colour.2.1 110 = .ok (.aload_n 0, 1) := by decide +kernel
theorem dRef_colour_111 : decode mRef_colour.2.1 111 = .ok (.getfield 13, 3) := by decide +kernel
theorem dRef_colour_114 : decode mRef_colour.2.1 114 = .ok (.iconst 4, 1) := by decide +kernel
theorem dRef_colour_115 : decode mRef_colour.2.1 115 = .ok (.aload_n 0, 1) := by decide +kernel
theorem dRef_colour_116 : decode mRef_colour.2.1 116 = .ok (.getfield 83, 3) := by decide +kernel
theorem dRef_colour_119 : decode mRef_colour.2.1 119 = .ok (.imul, 1) := by decide +kernel
theorem dRef_colour_120 : decode mRef_colour.2.1 120 = .ok (.iconst 2, 1) := by decide +kernel
theorem dRef_colour_121 : decode mRef_colour.2.1 121 = .ok (.iadd, 1) := by decide +kernel
theorem dRef_colour_122 : decode mRef_colour.2.1 122 = .ok (.iload_n 3, 1) := by decide +kernel
theorem dRef_colour_123 : decode mRef_colour.2.1 123 = .ok (.iastore, 1) := by decide +kernel
theorem dRef_colour_124 : decode mRef_colour.2.1 124 = .ok (.aload_n 0, 1) := by decide +kernel
theorem dRef_colour_125 : decode mRef_colour.2.1 125 = .ok (.getfield 13, 3) := by decide +kernel
theorem dRef_colour_128 : decode mRef_colour.2.1 128 = .ok (.iconst 4, 1) := by decide +kernel
theorem dRef_colour_129 : decode mRef_colour.2.1 129 = .ok (.aload_n 0, 1) := by decide +kernel
theorem dRef_colour_130 : decode mRef_colour.2.1 130 = .ok (.getfield 83, 3) := by decide +kernel
theorem dRef_colour_133 : decode mRef_colour.2.1 133 = .ok (.imul, 1) := by decide +kernel
theorem dRef_colour_134 : decode mRef_colour.2.1 134 = .ok (.iconst 3, 1) := by decide +kernel
theorem dRef_colour_135 : decode mRef_colour.2.1 135 = .ok (.iadd, 1) := by decide +kernel
theorem dRef_colour_136 : decode mRef_colour.2.1 136 = .ok (.iload 4, 2) := by decide +kernel
theorem dRef_colour_138 : decode mRef_colour.2.1 138 = .ok (.iastore, 1) := by decide +kernel
theorem dRef_colour_139 : decode mRef_colour.2.1 139 = .ok (.aload_n 0, 1) := by decide +kernel
theorem dRef_colour_140 : decode mRef_colour.2.1 140 = .ok (.dup, 1) := by decide +kernel
theorem dRef_colour_141 : decode mRef_colour.2.1 141 = .ok (.getfield 83, 3) := by decide +kernel
theorem dRef_colour_144 : decode mRef_colour.2.1 144 = .ok (.iconst 1, 1) := by decide +kernel
theorem dRef_colour_145 : decode mRef_colour.2.1 145 = .ok (.iadd, 1) := by decide +kernel
theorem dRef_colour_146 : decode mRef_colour.2.1 146 = .ok (.putfield 83, 3) := by decide +kernel
theorem dRef_colour_149 : decode mRef_colour.2.1 149 = .ok (.aload_n 0, 1) := by decide +kernel
theorem dRef_colour_150 : decode mRef_colour.2.1 150 = .ok (.invokevirtual 97, 3) := by decide +kernel
theorem dRef_colour_153 : decode mRef_colour.2.1 153 = .ok (.aload_n 0, 1) := by decide +kernel
theorem dRef_colour_154 : decode mRef_colour.2.1 154 = .ok (.getfield 83, 3) := by decide +kernel
theorem dRef_colour_157 : decode mRef_colour.2.1 157 = .ok (.ireturn, 1) := by decide +kernel
theorem dRef_put_0 : decode mRef_put.2.1 0 = .ok (.aload_n 0, 1) := by decide +kernel
theorem dRef_put_1 : decode mRef_put.2.1 1 = .ok (.aload_n 0, 1) := by decide +kernel
theorem dRef_put_2 : decode mRef_put.2.1 2 = .ok (.getfield 67, 3) := by decide +kernel
theorem dRef_put_5 : decode mRef_put.2.1 5 = .ok (.ifCond .ne 7, 3) := by decide +kernel
theorem dRef_put_8 : decode mRef_put.2.1 8 = .ok (.iconst 1, 1) := by decide +kernel
theorem dRef_put_9 : decode mRef_put.2.1 9 = .ok (.goto 84, 3) := by decide +kernel
theorem dRef_put_12 : decode mRef_put.2.1 12 = .ok (.iload_n 1, 1) := by decide +kernel
theorem dRef_put_13 : decode mRef_put.2.1 13 = .ok (.ifCond .lt 38, 3) := by decide +kernel
theorem dRef_put_16 : decode mRef_put.2.1 16 = .ok (.iload_n 1, 1) := by decide +kernel
theorem dRef_put_17 : decode mRef_put.2.1 17 = .ok (.aload_n 0, 1) := by decide +kernel
theorem dRef_put_18 : decode mRef_put.2.1 18 = .ok (.getfield 71, 3) := by decide +kernel
theorem dRef_put_21 : decode mRef_put.2.1 21 = .ok (.if_icmp .ge 30, 3) := by decide +kernel
theorem dRef_put_24 : decode mRef_put.2.1 24 = .ok (.iload_n 2, 1) := by decide +kernel
theorem dRef_put_25 : decode mRef_put.2.1 25 = .ok (.ifCond .lt 26, 3) := by decide +kernel
theorem dRef_put_28 : decode mRef_put.2.1 28 = .ok (.iload_n 2, 1) := by decide +kernel
theorem dRef_put_29 : decode mRef_put.2.1 29 = .ok (.aload_n 0, 1) := by decide +kernel
theorem dRef_put_30 : decode mRef_put.2.1 30 = .ok (.getfield 74, 3) := by decide +kernel
theorem dRef_put_33 : decode mRef_put.2.1 33 = .ok (.if_icmp .ge 18, 3) := by decide +kernel
theorem dRef_put_36 : decode mRef_put.2.1 36 = .ok (.iload_n 3, 1) := by decide +kernel
theorem dRef_put_37 : decode mRef_put.2.1 37 = .ok (.ifCond .lt 14, 3) := by decide +kernel
theorem dRef_put_40 : decode mRef_put.2.1 40 = .ok (.iload_n 3, 1) := by decide +kernel
theorem dRef_put_41 : decode mRef_put.2.1 41 = .ok (.aload_n 0, 1) := by decide +kernel
theorem dRef_put_42 : decode mRef_put.2.1 42 = .ok (.getfield 80, 3) := by decide +kernel
theorem dRef_put_45 : decode mRef_put.2.1 45 = .ok (.invokestatic 100, 3) := by decide +kernel
theorem dRef_put_48 : decode mRef_put.2.1 48 = .ok (.if_icmp .lt 7, 3) := by decide +kernel
theorem dRef_put_51 : decode mRef_put.2.1 51 = .ok (.iconst 2, 1) := by decide +kernel
theorem dRef_put_52 : decode mRef_put.2.1 52 = .ok (.goto 41, 3) := by decide +kernel
theorem dRef_put_55 : decode mRef_put.2.1 55 = .ok (.iload 4, 2) := by decide +kernel
theorem dRef_put_57 : decode mRef_put.2.1 57 = .ok (.ifCond .lt 31, 3) := by decide +kernel
theorem dRef_put_60 : decode mRef_put.2.1 60 = .ok (.iload 4, 2) := by decide +kernel
theorem dRef_put_62 : decode mRef_put.2.1 62 = .ok (.iconst 1, 1) := by decide +kernel
theorem dRef_put_63 : decode mRef_put.2.1 63 = .ok (.aload_n 0, 1) := by decide +kernel
theorem dRef_put_64 : decode mRef_put.2.1 64 = .ok (.getfield 77, 3) := by decide +kernel
theorem dRef_put_67 : decode mRef_put.2.1 67 = .ok (.ishl, 1) := by decide +kernel
theorem dRef_put_68 : decode mRef_put.2.1 68 = .ok (.if_icmp .ge 20, 3) := by decide +kernel
theorem dRef_put_71 : decode mRef_put.2.1 71 = .ok (.aload_n 0, 1) := by decide +kernel
theorem dRef_put_72 : decode mRef_put.2.1 72 = .ok (.getfield 80, 3) := by decide +kernel
theorem dRef_put_75 : decode mRef_put.2.1 75 = .ok (.iconst 3, 1) := by decide +kernel
theorem dRef_put_76 : decode mRef_put.2.1 76 = .ok (.if_icmp .ne 16, 3) := by decide +kernel
theorem dRef_put_79 : decode mRef_put.2.1 79 = .ok (.iload 4, 2) := by decide +kernel
theorem dRef_put_81 : decode mRef_put.2.1 81 = .ok (.aload_n 0, 1) := by decide +kernel
theorem dRef_put_82 : decode mRef_put.2.1 82 = .ok (.getfield 83, 3) := by decide +kernel
theorem dRef_put_85 : decode mRef_put.2.1 85 = .ok (.if_icmp .lt 7, 3) := by decide +kernel
theorem dRef_put_88 : decode mRef_put.2.1 88 = .ok (.iconst 3, 1) := by decide +kernel
theorem dRef_put_89 : decode mRef_put.2.1 89 = .ok (.goto 4, 3) := by decide +kernel
theorem dRef_put_92 : decode mRef_put.2.1 92 = .ok (.iconst 0, 1) := by decide +kernel
theorem dRef_put_93 : decode mRef_put.2.1 93 = .ok (.putfield 59, 3) := by decide +kernel
theorem dRef_put_96 : decode mRef_put.2.1 96 = .ok (.aload_n 0, 1) := by decide +kernel
theorem dRef_put_97 : decode mRef_put.2.1 97 = .ok (.getfield 59, 3) := by decide +kernel
theorem dRef_put_100 : decode mRef_put.2.1 100 = .ok (.ifCond .le 5, 3) := by decide +kernel
theorem dRef_put_103 : decode mRef_put.2.1 103 = .ok (.iconst 0, 1) := by decide +kernel
theorem dRef_put_104 : decode mRef_put.2.1 104 = .ok (.ireturn, 1) := by decide +kernel
theorem dRef_put_105 : decode mRef_put.2.1 105 = .ok (.iconst 4, 1) := by decide +kernel
theorem dRef_put_106 : decode mRef_put.2.1 106 = .ok (.bipush 12, 2) := by decide +kernel
theorem dRef_put_108 : decode mRef_put.2.1 108 = .ok (.iload_n 2, 1) := by decide +kernel
theorem dRef_put_109 : decode mRef_put.2.1 109 = .ok (.imul, 1) := by decide +kernel
theorem dRef_put_110 : decode mRef_put.2.1 110 = .ok (.iload_n 1, 1) := by decide +kernel
theorem dRef_put_111 : decode mRef_put.2.1 111 = .ok (.iadd, 1) := by decide +kernel
theorem dRef_put_112 : decode mRef_put.2.1 112 = .ok (.imul, 1) := by decide +kernel
theorem dRef_put_113 : decode mRef_put.2.1 113 = .ok (.iload_n 3, 1) := by decide +kernel
theorem dRef_put_114 : decode mRef_put.2.1 114 = .ok (.iadd, 1) := by decide +kernel
theorem dRef_put_115 : decode mRef_put.2.1 115 = .ok (.istore 5, 2) := by decide +kernel
theorem dRef_put_117 : decode mRef_put.2.1 117 = .ok (.aload_n 0, 1) := by decide +kernel
theorem dRef_put_118 : decode mRef_put.2.1 118 = .ok (.getfield 7, 3) := by decide +kernel
theorem dRef_put_121 : decode mRef_put.2.1 121 = .ok (.iload 5, 2) := by decide +kernel
theorem dRef_put_123 : decode mRef_put.2.1 123 = .ok (.iaload, 1) := by decide +kernel
theorem dRef_put_124 : decode mRef_put.2.1 124 = .ok (.istore 6, 2) := by decide +kernel
theorem dRef_put_126 : decode mRef_put.2.1 126 = .ok (.aload_n 0, 1) := by decide +kernel
theorem dRef_put_127 : decode mRef_put.2.1 127 = .ok (.getfield 7, 3) := by decide +kernel
theorem dRef_put_130 : decode mRef_put.2.1 130 = .ok (.iload 5, 2) := by decide +kernel
theorem dRef_put_132 : decode mRef_put.2.1 132 = .ok (.iload 4, 2) := by decide +kernel
theorem dRef_put_134 : decode mRef_put.2.1 134 = .ok (.iastore, 1) := by decide +kernel
theorem dRef_put_135 : decode mRef_put.2.1 135 = .ok (.iload 6, 2) := by decide +kernel
theorem dRef_put_137 : decode mRef_put.2.1 137 = .ok (.iload 4, 2) := by decide +kernel
theorem dRef_put_139 : decode mRef_put.2.1 139 = .ok (.if_icmp .eq 7, 3) := by decide +kernel
theorem dRef_put_142 : decode mRef_put.2.1 142 = .ok (.aload_n 0, 1) := by decide +kernel
theorem dRef_put_143 : decode mRef_put.2.1 143 = .ok (.invokevirtual 97, 3) := by decide +kernel
theorem dRef_put_146 : decode mRef_put.2.1 146 = .ok (.iload 6, 2) := by decide +kernel
theorem dRef_put_148 : decode mRef_put.2.1 148 = .ok (.ireturn, 1) := by decide +kernel
theorem dRef_mayBe_0 : decode mRef_mayBe.2.1 0 = .ok (.iload_n 0, 1) := by decide +kernel
theorem dRef_mayBe_1 : decode mRef_mayBe.2.1 1 = .ok (.iconst 1, 1) := by decide +kernel
theorem dRef_mayBe_2 : decode mRef_mayBe.2.1 2 = .ok (.if_icmp .ne 25, 3) := by decide +kernel
theorem dRef_mayBe_5 : decode mRef_mayBe.2.1 5 = .ok (.lload_n 1, 1) := by decide +kernel
theorem dRef_mayBe_6 : decode mRef_mayBe.2.1 6 = .ok (.lconst 0, 1) := by decide +kernel
theorem dRef_mayBe_7 : decode mRef_mayBe.2.1 7 = .ok (.lcmp, 1) := by decide +kernel
theorem dRef_mayBe_8 : decode mRef_mayBe.2.1 8 = .ok (.ifCond .lt 15, 3) := by decide +kernel
theorem dRef_mayBe_11 : decode mRef_mayBe.2.1 11 = .ok (.lload_n 1, 1) := by decide +kernel
theorem dRef_mayBe_12 : decode mRef_mayBe.2.1 12 = .ok (.ldc2_w 103, 3) := by decide +kernel
theorem dRef_mayBe_15 : decode mRef_mayBe.2.1 15 = .ok (.lcmp, 1) := by decide +kernel
theorem dRef_mayBe_16 : decode mRef_mayBe.2.1 16 = .ok (.ifCond .gt 7, 3) := by decide +kernel
theorem dRef_mayBe_19 : decode mRef_mayBe.2.1 19 = .ok (.iconst 1, 1) := by decide +kernel
theorem dRef_mayBe_20 : decode mRef_mayBe.2.1 20 = .ok (.goto 26, 3) := by decide +kernel
theorem dRef_mayBe_23 : decode mRef_mayBe.2.1 23 = .ok (.iconst 0, 1) := by decide +kernel
theorem dRef_mayBe_24 : decode mRef_mayBe.2.1 24 = .ok (.goto 22, 3) := by decide +kernel
theorem dRef_mayBe_27 : decode mRef_mayBe.2.1 27 = .ok (.lload_n 1, 1) := by decide +kernel
theorem dRef_mayBe_28 : decode mRef_mayBe.2.1 28 = .ok (.lconst 1, 1) := by decide +kernel
theorem dRef_mayBe_29 : decode mRef_mayBe.2.1 29 = .ok (.lcmp, 1) := by decide +kernel
theorem dRef_mayBe_30 : decode mRef_mayBe.2.1 30 = .ok (.ifCond .lt 15, 3) := by decide +kernel
theorem dRef_mayBe_33 : decode mRef_mayBe.2.1 33 = .ok (.lload_n 1, 1) := by decide +kernel
theorem dRef_mayBe_34 : decode mRef_mayBe.2.1 34 = .ok (.ldc2_w 105, 3) := by decide +kernel
theorem dRef_mayBe_37 : decode mRef_mayBe.2.1 37 = .ok (.lcmp, 1) := by decide +kernel
theorem dRef_mayBe_38 : decode mRef_mayBe.2.1 38 = .ok (.ifCond .gt 7, 3) := by decide +kernel
theorem dRef_mayBe_41 : decode mRef_mayBe.2.1 41 = .ok (.iconst 1, 1) := by decide +kernel
theorem dRef_mayBe_42 : decode mRef_mayBe.2.1 42 = .ok (.goto 4, 3) := by decide +kernel
theorem dRef_mayBe_45 : decode mRef_mayBe.2.1 45 = .ok (.iconst 0, 1) := by decide +kernel
theorem dRef_mayBe_46 : decode mRef_mayBe.2.1 46 = .ok (.ireturn, 1) := by decide +kernel
theorem dRef_tag_0 : decode mRef_tag.2.1 0 = .ok (.aload_n 0, 1) := by decide +kernel
theorem dRef_tag_1 : decode mRef_tag.2.1 1 = .ok (.aload_n 0, 1) := by decide +kernel
theorem dRef_tag_2 : decode mRef_tag.2.1 2 = .ok (.getfield 67, 3) := by decide +kernel
theorem dRef_tag_5 : decode mRef_tag.2.1 5 = .ok (.ifCond .ne 7, 3) := by decide +kernel
theorem dRef_tag_8 : decode mRef_tag.2.1 8 = .ok (.iconst 1, 1) := by decide +kernel
theorem dRef_tag_9 : decode mRef_tag.2.1 9 = .ok (.goto 31, 3) := by decide +kernel
theorem dRef_tag_12 : decode mRef_tag.2.1 12 = .ok (.iload_n 1, 1) := by decide +kernel
theorem dRef_tag_13 : decode mRef_tag.2.1 13 = .ok (.ifCond .lt 22, 3) := by decide +kernel
theorem dRef_tag_16 : decode mRef_tag.2.1 16 = .ok (.iload_n 1, 1) := by decide +kernel
theorem dRef_tag_17 : decode mRef_tag.2.1 17 = .ok (.iconst 2, 1) := by decide +kernel
theorem dRef_tag_18 : decode mRef_tag.2.1 18 = .ok (.if_icmp .gt 17, 3) := by decide +kernel
theorem dRef_tag_21 : decode mRef_tag.2.1 21 = .ok (.iload_n 2, 1) := by decide +kernel
theorem dRef_tag_22 : decode mRef_tag.2.1 22 = .ok (.iconst (-1), 1) := by decide +kernel
theorem dRef_tag_23 : decode mRef_tag.2.1 23 = .ok (.if_icmp .eq 16, 3) := by decide +kernel
theorem dRef_tag_26 : decode mRef_tag.2.1 26 = .ok (.iload_n 1, 1) := by decide +kernel
theorem dRef_tag_27 : decode mRef_tag.2.1 27 = .ok (.iload_n 2, 1) := by decide +kernel
theorem dRef_tag_28 : decode mRef_tag.2.1 28 = .ok (.i2l, 1) := by decide +kernel
theorem dRef_tag_29 : decode mRef_tag.2.1 29 = .ok (.invokestatic 107, 3) := by decide +kernel
theorem dRef_tag_32 : decode mRef_tag.2.1 32 = .ok (.ifCond .ne 7, 3) := by decide +kernel
theorem dRef_tag_35 : decode mRef_tag.2.1 35 = .ok (.iconst 2, 1) := by decide +kernel
theorem dRef_tag_36 : decode mRef_tag.2.1 36 = .ok (.goto 4, 3) := by decide +kernel
theorem dRef_tag_39 : decode mRef_tag.2.1 39 = .ok (.iconst 0, 1) := by decide +kernel
theorem dRef_tag_40 : decode mRef_tag.2.1 40 = .ok (.putfield 59, 3) := by decide +kernel
theorem dRef_tag_43 : decode mRef_tag.2.1 43 = .ok (.aload_n 0, 1) := by decide +kernel
theorem dRef_tag_44 : decode mRef_tag.2.1 44 = .ok (.getfield 59, 3) := by decide +kernel
theorem dRef_tag_47 : decode mRef_tag.2.1 47 = .ok (.ifCond .le 5, 3) := by decide +kernel
theorem dRef_tag_50 : decode mRef_tag.2.1 50 = .ok (.iconst 0, 1) := by decide +kernel
theorem dRef_tag_51 : decode mRef_tag.2.1 51 = .ok (.ireturn, 1) := by decide +kernel
theorem dRef_tag_52 : decode mRef_tag.2.1 52 = .ok (.aload_n 0, 1) := by decide +kernel
theorem dRef_tag_53 : decode mRef_tag.2.1 53 = .ok (.getfield 16, 3) := by decide +kernel
theorem dRef_tag_56 : decode mRef_tag.2.1 56 = .ok (.iload_n 1, 1) := by decide +kernel
theorem dRef_tag_57 : decode mRef_tag.2.1 57 = .ok (.iaload, 1) := by decide +kernel
theorem dRef_tag_58 : decode mRef_tag.2.1 58 = .ok (.istore_n 3, 1) := by decide +kernel
theorem dRef_tag_59 : decode mRef_tag.2.1 59 = .ok (.aload_n 0, 1) := by decide +kernel
theorem dRef_tag_60 : decode mRef_tag.2.1 60 = .ok (.getfield 16, 3) := by decide +kernel
theorem dRef_tag_63 : decode mRef_tag.2.1 63 = .ok (.iload_n 1, 1) := by decide +kernel
theorem dRef_tag_64 : decode mRef_tag.2.1 64 = .ok (.iload_n 2, 1) := by decide +kernel
theorem dRef_tag_65 : decode mRef_tag.2.1 65 = .ok (.iastore, 1) := by decide +kernel
theorem dRef_tag_66 : decode mRef_tag.2.1 66 = .ok (.iload_n 3, 1) := by decide +kernel
theorem dRef_tag_67 : decode mRef_tag.2.1 67 = .ok (.ireturn, 1) := by decide +kernel
theorem dRef_isGreat_0 : decode mRef_isGreat.2.1 0 = .ok (.iload_n 0, 1) := by decide +kernel
theorem dRef_isGreat_1 : decode mRef_isGreat.2.1 1 = .ok (.bipush 65, 2) := by decide +kernel
theorem dRef_isGreat_3 : decode mRef_isGreat.2.1 3 = .ok (.if_icmp .lt 13, 3) := by decide +kernel
theorem dRef_isGreat_6 : decode mRef_isGreat.2.1 6 = .ok (.iload_n 0, 1) := by decide +kernel
theorem dRef_isGreat_7 : decode mRef_isGreat.2.1 7 = .ok (.bipush 90, 2) := by decide +kernel
theorem dRef_isGreat_9 : decode mRef_isGreat.2.1 9 = .ok (.if_icmp .gt 7, 3) := by decide +kernel
theorem dRef_isGreat_12 : decode mRef_isGreat.2.1 12 = .ok (.iconst 1, 1) := by decide +kernel
theorem dRef_isGreat_13 : decode mRef_isGreat.2.1 13 = .ok (.goto 4, 3) := by decide +kernel
theorem dRef_isGreat_16 : decode mRef_isGreat.2.1 16 = .ok (.iconst 0, 1) := by decide +kernel
theorem dRef_isGreat_17 : decode mRef_isGreat.2.1 17 = .ok (.ireturn, 1) := by decide +kernel
theorem dRef_isSmall_0 : decode mRef_isSmall.2.1 0 = .ok (.iload_n 0, 1) := by decide +kernel
theorem dRef_isSmall_1 : decode mRef_isSmall.2.1 1 = .ok (.bipush 97, 2) := by decide +kernel
theorem dRef_isSmall_3 : decode mRef_isSmall.2.1 3 = .ok (.if_icmp .lt 13, 3) := by decide +kernel
theorem dRef_isSmall_6 : decode mRef_isSmall.2.1 6 = .ok (.iload_n 0, 1) := by decide +kernel
theorem dRef_isSmall_7 : decode mRef_isSmall.2.1 7 = .ok (.bipush 122, 2) := by decide +kernel
theorem dRef_isSmall_9 : decode mRef_isSmall.2.1 9 = .ok (.if_icmp .gt 7, 3) := by decide +kernel
theorem dRef_isSmall_12 : decode mRef_isSmall.2.1 12 = .ok (.iconst 1, 1) := by decide +kernel
theorem dRef_isSmall_13 : decode mRef_isSmall.2.1 13 = .ok (.goto 4, 3) := by decide +kernel
theorem dRef_isSmall_16 : decode mRef_isSmall.2.1 16 = .ok (.iconst 0, 1) := by decide +kernel
theorem dRef_isSmall_17 : decode mRef_isSmall.2.1 17 = .ok (.ireturn, 1) := by decide +kernel
theorem dRef_letter_0 : decode mRef_letter.2.1 0 = .ok (.iload_n 0, 1) := by decide +kernel
theorem dRef_letter_1 : decode mRef_letter.2.1 1 = .ok (.bipush 24, 2) := by decide +kernel
theorem dRef_letter_3 : decode mRef_letter.2.1 3 = .ok (.bipush 8, 2) := by decide +kernel
theorem dRef_letter_5 : decode mRef_letter.2.1 5 = .ok (.iload_n 1, 1) := by decide +kernel
theorem dRef_letter_6 : decode mRef_letter.2.1 6 = .ok (.imul, 1) := by decide +kernel
theorem dRef_letter_7 : decode mRef_letter.2.1 7 = .ok (.isub, 1) := by decide +kernel
theorem dRef_letter_8 : decode mRef_letter.2.1 8 = .ok (.ishr, 1) := by decide +kernel
theorem dRef_letter_9 : decode mRef_letter.2.1 9 = .ok (.sipush 255, 3) := by decide +kernel
theorem dRef_letter_12 : decode mRef_letter.2.1 12 = .ok (.iand, 1) := by decide +kernel
theorem dRef_letter_13 : decode mRef_letter.2.1 13 = .ok (.ireturn, 1) := by decide +kernel
theorem dRef_areLetters_0 : decode mRef_areLetters.2.1 0 = .ok (.iconst 1, 1) := by decide +kernel
theorem dRef_areLetters_1 : decode mRef_areLetters.2.1 1 = .ok (.istore_n 1, 1) := by decide +kernel
theorem dRef_areLetters_2 : decode mRef_areLetters.2.1 2 = .ok (.iconst 0, 1) := by decide +kernel
theorem dRef_areLetters_3 : decode mRef_areLetters.2.1 3 = .ok (.istore_n 2, 1) := by decide +kernel
theorem dRef_areLetters_4 : decode mRef_areLetters.2.1 4 = .ok (.iload_n 2, 1) := by decide +kernel
theorem dRef_areLetters_5 : decode mRef_areLetters.2.1 5 = .ok (.iconst 4, 1) := by decide +kernel
theorem dRef_areLetters_6 : decode mRef_areLetters.2.1 6 = .ok (.if_icmp .ge 41, 3) := by decide +kernel
theorem dRef_areLetters_9 : decode mRef_areLetters.2.1 9 = .ok (.iload_n 1, 1) := by decide +kernel
theorem dRef_areLetters_10 : decode mRef_areLetters.2.1 10 = .ok (.ifCond .eq 29, 3) := by decide +kernel
theorem dRef_areLetters_13 : decode mRef_areLetters.2.1 13 = .ok (.iload_n 0, 1) := by decide +kernel
theorem dRef_areLetters_14 : decode mRef_areLetters.2.1 14 = .ok (.iload_n 2, 1) := by decide +kernel
theorem dRef_areLetters_15 : decode mRef_areLetters.2.1 15 = .ok (.invokestatic 111, 3) := by decide +kernel
theorem dRef_areLetters_18 : decode mRef_areLetters.2.1 18 = .ok (.invokestatic 115, 3) := by decide +kernel
theorem dRef_areLetters_21 : decode mRef_areLetters.2.1 21 = .ok (.ifCond .ne 14, 3) := by decide +kernel
theorem dRef_areLetters_24 : decode mRef_areLetters.2.1 24 = .ok (.iload_n 0, 1) := by decide +kernel
theorem dRef_areLetters_25 : decode mRef_areLetters.2.1 25 = .ok (.iload_n 2, 1) := by decide +kernel
theorem dRef_areLetters_26 : decode mRef_areLetters.2.1 26 = .ok (.invokestatic 111, 3) := by decide +kernel
theorem dRef_areLetters_29 : decode mRef_areLetters.2.1 29 = .ok (.invokestatic 118, 3) := by decide +kernel
theorem dRef_areLetters_32 : decode mRef_areLetters.2.1 32 = .ok (.ifCond .eq 7, 3) := by decide +kernel
theorem dRef_areLetters_35 : decode mRef_areLetters.2.1 35 = .ok (.iconst 1, 1) := by decide +kernel
theorem dRef_areLetters_36 : decode mRef_areLetters.2.1 36 = .ok (.goto 4, 3) := by decide +kernel
theorem dRef_areLetters_39 : decode mRef_areLetters.2.1 39 = .ok (.iconst 0, 1) := by decide +kernel
theorem dRef_areLetters_40 : decode mRef_areLetters.2.1 40 = .ok (.istore_n 1, 1) := by decide +kernel
theorem dRef_areLetters_41 : decode mRef_areLetters.2.1 41 = .ok (.iinc 2 1, 3) := by decide +kernel
theorem dRef_areLetters_44 : decode mRef_areLetters.2.1 44 = .ok (.goto (-40), 3) := by decide +kernel
theorem dRef_areLetters_47 : decode mRef_areLetters.2.1 47 = .ok (.iload_n 1, 1) := by decide +kernel
theorem dRef_areLetters_48 : decode mRef_areLetters.2.1 48 = .ok (.ifCond .eq 18, 3) := by decide +kernel
theorem dRef_areLetters_51 : decode mRef_areLetters.2.1 51 = .ok (.iload_n 0, 1) := by decide +kernel
theorem dRef_areLetters_52 : decode mRef_areLetters.2.1 52 = .ok (.iconst 2, 1) := by decide +kernel
theorem dRef_areLetters_53 : decode mRef_areLetters.2.1 53 = .ok (.invokestatic 111, 3) := by decide +kernel
theorem dRef_areLetters_56 : decode mRef_areLetters.2.1 56 = .ok (.invokestatic 115, 3) := by decide +kernel
theorem dRef_areLetters_59 : decode mRef_areLetters.2.1 59 = .ok (.ifCond .eq 7, 3) := by decide +kernel
theorem dRef_areLetters_62 : decode mRef_areLetters.2.1 62 = .ok (.iconst 1, 1) := by decide +kernel
theorem dRef_areLetters_63 : decode mRef_areLetters.2.1 63 = .ok (.goto 4, 3) := by decide +kernel
theorem dRef_areLetters_66 : decode mRef_areLetters.2.1 66 = .ok (.iconst 0, 1) := by decide +kernel
theorem dRef_areLetters_67 : decode mRef_areLetters.2.1 67 = .ok (.ireturn, 1) := by decide +kernel
theorem dRef_isOfOthers_0 : decode mRef_isOfOthers.2.1 0 = .ok (.iload_n 0, 1) := by decide +kernel
theorem dRef_isOfOthers_1 : decode mRef_isOfOthers.2.1 1 = .ok (.invokestatic 121, 3) := by decide +kernel
theorem dRef_isOfOthers_4 : decode mRef_isOfOthers.2.1 4 = .ok (.ifCond .eq 42, 3) := by decide +kernel
theorem dRef_isOfOthers_7 : decode mRef_isOfOthers.2.1 7 = .ok (.iload_n 0, 1) := by decide +kernel
theorem dRef_isOfOthers_8 : decode mRef_isOfOthers.2.1 8 = .ok (.iconst 0, 1) := by decide +kernel
theorem dRef_isOfOthers_9 : decode mRef_isOfOthers.2.1 9 = .ok (.invokestatic 111, 3) := by decide +kernel
theorem dRef_isOfOthers_12 : decode mRef_isOfOthers.2.1 12 = .ok (.invokestatic 118, 3) := by decide +kernel
theorem dRef_isOfOthers_15 : decode mRef_isOfOthers.2.1 15 = .ok (.ifCond .eq 31, 3) := by decide +kernel
theorem dRef_isOfOthers_18 : decode mRef_isOfOthers.2.1 18 = .ok (.iload_n 0, 1) := by decide +kernel
theorem dRef_isOfOthers_19 : decode mRef_isOfOthers.2.1 19 = .ok (.ldc 124, 2) := by decide +kernel
theorem dRef_isOfOthers_21 : decode mRef_isOfOthers.2.1 21 = .ok (.if_icmp .eq 25, 3) := by decide +kernel
theorem dRef_isOfOthers_24 : decode mRef_isOfOthers.2.1 24 = .ok (.iload_n 0, 1) := by decide +kernel
theorem dRef_isOfOthers_25 : decode mRef_isOfOthers.2.1 25 = .ok (.ldc 125, 2) := by decide +kernel
theorem dRef_isOfOthers_27 : decode mRef_isOfOthers.2.1 27 = .ok (.if_icmp .eq 19, 3) := by decide +kernel
theorem dRef_isOfOthers_30 : decode mRef_isOfOthers.2.1 30 = .ok (.iload_n 0, 1) := by decide +kernel
theorem dRef_isOfOthers_31 : decode mRef_isOfOthers.2.1 31 = .ok (.ldc 126, 2) := by decide +kernel
theorem dRef_isOfOthers_33 : decode mRef_isOfOthers.2.1 33 = .ok (.if_icmp .eq 13, 3) := by decide +kernel
theorem dRef_isOfOthers_36 : decode mRef_isOfOthers.2.1 36 = .ok (.iload_n 0, 1) := by decide +kernel
theorem dRef_isOfOthers_37 : decode mRef_isOfOthers.2.1 37 = .ok (.ldc 127, 2) := by decide +kernel
theorem dRef_isOfOthers_39 : decode mRef_isOfOthers.2.1 39 = .ok (.if_icmp .eq 7, 3) := by decide +kernel
theorem dRef_isOfOthers_42 : decode mRef_isOfOthers.2.1 42 = .ok (.iconst 1, 1) := by decide +kernel
theorem dRef_isOfOthers_43 : decode mRef_isOfOthers.2.1 43 = .ok (.goto 4, 3) := by decide +kernel
theorem dRef_isOfOthers_46 : decode mRef_isOfOthers.2.1 46 = .ok (.iconst 0, 1) := by decide +kernel
theorem dRef_isOfOthers_47 : decode mRef_isOfOthers.2.1 47 = .ok (.ireturn, 1) := by decide +kernel
theorem dRef_extra_0 : decode mRef_extra.2.1 0 = .ok (.aload_n 0, 1) := by decide +kernel
theorem dRef_extra_1 : decode mRef_extra.2.1 1 = .ok (.aload_n 0, 1) := by decide +kernel
theorem dRef_extra_2 : decode mRef_extra.2.1 2 = .ok (.getfield 67, 3) := by decide +kernel
theorem dRef_extra_5 : decode mRef_extra.2.1 5 = .ok (.ifCond .ne 7, 3) := by decide +kernel
theorem dRef_extra_8 : decode mRef_extra.2.1 8 = .ok (.iconst 1, 1) := by decide +kernel
theorem dRef_extra_9 : decode mRef_extra.2.1 9 = .ok (.goto 28, 3) := by decide +kernel
theorem dRef_extra_12 : decode mRef_extra.2.1 12 = .ok (.iload_n 1, 1) := by decide +kernel
theorem dRef_extra_13 : decode mRef_extra.2.1 13 = .ok (.invokestatic 128, 3) := by decide +kernel
theorem dRef_extra_16 : decode mRef_extra.2.1 16 = .ok (.ifCond .ne 7, 3) := by decide +kernel
theorem dRef_extra_19 : decode mRef_extra.2.1 19 = .ok (.iconst 2, 1) := by decide +kernel
theorem dRef_extra_20 : decode mRef_extra.2.1 20 = .ok (.goto 17, 3) := by decide +kernel
theorem dRef_extra_23 : decode mRef_extra.2.1 23 = .ok (.aload_n 0, 1) := by decide +kernel
theorem dRef_extra_24 : decode mRef_extra.2.1 24 = .ok (.getfield 86, 3) := by decide +kernel
theorem dRef_extra_27 : decode mRef_extra.2.1 27 = .ok (.bipush 6, 2) := by decide +kernel
theorem dRef_extra_29 : decode mRef_extra.2.1 29 = .ok (.if_icmp .ne 7, 3) := by decide +kernel
theorem dRef_extra_32 : decode mRef_extra.2.1 32 = .ok (.iconst 3, 1) := by decide +kernel
theorem dRef_extra_33 : decode mRef_extra.2.1 33 = .ok (.goto 4, 3) := by decide +kernel
theorem dRef_extra_36 : decode mRef_extra.2.1 36 = .ok (.iconst 0, 1) := by decide +kernel
theorem dRef_extra_37 : decode mRef_extra.2.1 37 = .ok (.putfield 59, 3) := by decide +kernel
theorem dRef_extra_40 : decode mRef_extra.2.1 40 = .ok (.aload_n 0, 1) := by decide +kernel
theorem dRef_extra_41 : decode mRef_extra.2.1 41 = .ok (.getfield 59, 3) := by decide +kernel
theorem dRef_extra_44 : decode mRef_extra.2.1 44 = .ok (.ifCond .le 5, 3) := by decide +kernel
theorem dRef_extra_47 : decode mRef_extra.2.1 47 = .ok (.iconst 0, 1) := by decide +kernel
theorem dRef_extra_48 : decode mRef_extra.2.1 48 = .ok (.ireturn, 1) := by decide +kernel
theorem dRef_extra_49 : decode mRef_extra.2.1 49 = .ok (.aload_n 0, 1) := by decide +kernel
theorem dRef_extra_50 : decode mRef_extra.2.1 50 = .ok (.getfield 19, 3) := by decide +kernel
theorem dRef_extra_53 : decode mRef_extra.2.1 53 = .ok (.aload_n 0, 1) := by decide +kernel
theorem dRef_extra_54 : decode mRef_extra.2.1 54 = .ok (.getfield 86, 3) := by decide +kernel
theorem dRef_extra_57 : decode mRef_extra.2.1 57 = .ok (.iload_n 1, 1) := by decide +kernel
theorem dRef_extra_58 : decode mRef_extra.2.1 58 = .ok (.iastore, 1) := by decide +kernel
theorem dRef_extra_59 : decode mRef_extra.2.1 59 = .ok (.aload_n 0, 1) := by decide +kernel
theorem dRef_extra_60 : decode mRef_extra.2.1 60 = .ok (.getfield 22, 3) := by decide +kernel
theorem dRef_extra_63 : decode mRef_extra.2.1 63 = .ok (.aload_n 0, 1) := by decide +kernel
theorem dRef_extra_64 : decode mRef_extra.2.1 64 = .ok (.getfield 86, 3) := by decide +kernel
theorem dRef_extra_67 : decode mRef_extra.2.1 67 = .ok (.iconst 0, 1) := by decide +kernel
theorem dRef_extra_68 : decode mRef_extra.2.1 68 = .ok (.iastore, 1) := by decide +kernel
theorem dRef_extra_69 : decode mRef_extra.2.1 69 = .ok (.aload_n 0, 1) := by decide +kernel
theorem dRef_extra_70 : decode mRef_extra.2.1 70 = .ok (.dup, 1) := by decide +kernel
theorem dRef_extra_71 : decode mRef_extra.2.1 71 = .ok (.getfield 86, 3) := by decide +kernel
theorem dRef_extra_74 : decode mRef_extra.2.1 74 = .ok (.iconst 1, 1) := by decide +kernel
theorem dRef_extra_75 : decode mRef_extra.2.1 75 = .ok (.iadd, 1) := by decide +kernel
theorem dRef_extra_76 : decode mRef_extra.2.1 76 = .ok (.putfield 86, 3) := by decide +kernel
theorem dRef_extra_79 : decode mRef_extra.2.1 79 = .ok (.aload_n 0, 1) := by decide +kernel
theorem dRef_extra_80 : decode mRef_extra.2.1 80 = .ok (.getfield 86, 3) := by decide +kernel
theorem dRef_extra_83 : decode mRef_extra.2.1 83 = .ok (.ireturn, 1) := by decide +kernel
theorem dRef_byteOf_0 : decode mRef_byteOf.2.1 0 = .ok (.aload_n 0, 1) := by decide +kernel
theorem dRef_byteOf_1 : decode mRef_byteOf.2.1 1 = .ok (.aload_n 0, 1) := by decide +kernel
theorem dRef_byteOf_2 : decode mRef_byteOf.2.1 2 = .ok (.getfield 67, 3) := by decide +kernel
theorem dRef_byteOf_5 : decode mRef_byteOf.2.1 5 = .ok (.ifCond .ne 7, 3) := by decide +kernel
theorem dRef_byteOf_8 : decode mRef_byteOf.2.1 8 = .ok (.iconst 1, 1) := by decide +kernel
theorem dRef_byteOf_9 : decode mRef_byteOf.2.1 9 = .ok (.goto 46, 3) := by decide +kernel
theorem dRef_byteOf_12 : decode mRef_byteOf.2.1 12 = .ok (.iload_n 1, 1) := by decide +kernel
theorem dRef_byteOf_13 : decode mRef_byteOf.2.1 13 = .ok (.ifCond .lt 11, 3) := by decide +kernel
theorem dRef_byteOf_16 : decode mRef_byteOf.2.1 16 = .ok (.iload_n 1, 1) := by decide +kernel
theorem dRef_byteOf_17 : decode mRef_byteOf.2.1 17 = .ok (.aload_n 0, 1) := by decide +kernel
theorem dRef_byteOf_18 : decode mRef_byteOf.2.1 18 = .ok (.getfield 86, 3) := by decide +kernel
theorem dRef_byteOf_21 : decode mRef_byteOf.2.1 21 = .ok (.if_icmp .lt 7, 3) := by decide +kernel
theorem dRef_byteOf_24 : decode mRef_byteOf.2.1 24 = .ok (.iconst 2, 1) := by decide +kernel
theorem dRef_byteOf_25 : decode mRef_byteOf.2.1 25 = .ok (.goto 30, 3) := by decide +kernel
theorem dRef_byteOf_28 : decode mRef_byteOf.2.1 28 = .ok (.iload_n 2, 1) := by decide +kernel
theorem dRef_byteOf_29 : decode mRef_byteOf.2.1 29 = .ok (.invokestatic 89, 3) := by decide +kernel
theorem dRef_byteOf_32 : decode mRef_byteOf.2.1 32 = .ok (.ifCond .ne 7, 3) := by decide +kernel
theorem dRef_byteOf_35 : decode mRef_byteOf.2.1 35 = .ok (.iconst 3, 1) := by decide +kernel
theorem dRef_byteOf_36 : decode mRef_byteOf.2.1 36 = .ok (.goto 19, 3) := by decide +kernel
theorem dRef_byteOf_39 : decode mRef_byteOf.2.1 39 = .ok (.aload_n 0, 1) := by decide +kernel
theorem dRef_byteOf_40 : decode mRef_byteOf.2.1 40 = .ok (.getfield 22, 3) := by decide +kernel
theorem dRef_byteOf_43 : decode mRef_byteOf.2.1 43 = .ok (.iload_n 1, 1) := by decide +kernel
theorem dRef_byteOf_44 : decode mRef_byteOf.2.1 44 = .ok (.iaload, 1) := by decide +kernel
theorem dRef_byteOf_45 : decode mRef_byteOf.2.1 45 = .ok (.bipush 40, 2) := by decide +kernel
theorem dRef_byteOf_47 : decode mRef_byteOf.2.1 47 = .ok (.if_icmp .ne 7, 3) := by decide +kernel
theorem dRef_byteOf_50 : decode mRef_byteOf.2.1 50 = .ok (.iconst 4, 1) := by decide +kernel
theorem dRef_byteOf_51 : decode mRef_byteOf.2.1 51 = .ok (.goto 4, 3) := by decide +kernel
theorem dRef_byteOf_54 : decode mRef_byteOf.2.1 54 = .ok (.iconst 0, 1) := by decide +kernel
theorem dRef_byteOf_55 : decode mRef_byteOf.2.1 55 = .ok (.putfield 59, 3) := by decide +kernel
theorem dRef_byteOf_58 : decode mRef_byteOf.2.1 58 = .ok (.aload_n 0, 1) := by decide +kernel
theorem dRef_byteOf_59 : decode mRef_byteOf.2.1 59 = .ok (.getfield 59, 3) := by decide +kernel
theorem dRef_byteOf_62 : decode mRef_byteOf.2.1 62 = .ok (.ifCond .le 5, 3) := by decide +kernel
theorem dRef_byteOf_65 : decode mRef_byteOf.2.1 65 = .ok (.iconst 0, 1) := by decide +kernel
theorem dRef_byteOf_66 : decode mRef_byteOf.2.1 66 = .ok (.ireturn, 1) := by decide +kernel
theorem dRef_byteOf_67 : decode mRef_byteOf.2.1 67 = .ok (.aload_n 0, 1) := by decide +kernel
theorem dRef_byteOf_68 : decode mRef_byteOf.2.1 68 = .ok (.getfield 25, 3) := by decide +kernel
theorem dRef_byteOf_71 : decode mRef_byteOf.2.1 71 = .ok (.bipush 40, 2) := by decide +kernel
theorem dRef_byteOf_73 : decode mRef_byteOf.2.1 73 = .ok (.iload_n 1, 1) := by decide +kernel
theorem dRef_byteOf_74 : decode mRef_byteOf.2.1 74 = .ok (.imul, 1) := by decide +kernel
theorem dRef_byteOf_75 : decode mRef_byteOf.2.1 75 = .ok (.aload_n 0, 1) := by decide +kernel
theorem dRef_byteOf_76 : decode mRef_byteOf.2.1 76 = .ok (.getfield 22, 3) := by decide +kernel
theorem dRef_byteOf_79 : decode mRef_byteOf.2.1 79 = .ok (.iload_n 1, 1) := by decide +kernel
theorem dRef_byteOf_80 : decode mRef_byteOf.2.1 80 = .ok (.iaload, 1) := by decide +kernel
theorem dRef_byteOf_81 : decode mRef_byteOf.2.1 81 = .ok (.iadd, 1) := by decide +kernel
theorem dRef_byteOf_82 : decode mRef_byteOf.2.1 82 = .ok (.iload_n 2, 1) := by decide +kernel
theorem dRef_byteOf_83 : decode mRef_byteOf.2.1 83 = .ok (.iastore, 1) := by decide +kernel
theorem dRef_byteOf_84 : decode mRef_byteOf.2.1 84 = .ok (.aload_n 0, 1) := by decide +kernel
theorem dRef_byteOf_85 : decode mRef_byteOf.2.1 85 = .ok (.getfield 22, 3) := by decide +kernel
theorem dRef_byteOf_88 : decode mRef_byteOf.2.1 88 = .ok (.iload_n 1, 1) := by decide +kernel
theorem dRef_byteOf_89 : decode mRef_byteOf.2.1 89 = .ok (.dup2, 1) := by decide +kernel
theorem dRef_byteOf_90 : decode mRef_byteOf.2.1 90 = .ok (.iaload, 1) := by decide +kernel
theorem dRef_byteOf_91 : decode mRef_byteOf.2.1 91 = .ok (.iconst 1, 1) := by decide +kernel
theorem dRef_byteOf_92 : decode mRef_byteOf.2.1 92 = .ok (.iadd, 1) := by decide +kernel
theorem dRef_byteOf_93 : decode mRef_byteOf.2.1 93 = .ok (.iastore, 1) := by decide +kernel
theorem dRef_byteOf_94 : decode mRef_byteOf.2.1 94 = .ok (.aload_n 0, 1) := by decide +kernel
theorem dRef_byteOf_95 : decode mRef_byteOf.2.1 95 = .ok (.getfield 22, 3) := by decide +kernel
theorem dRef_byteOf_98 : decode mRef_byteOf.2.1 98 = .ok (.iload_n 1, 1) := by decide +kernel
theorem dRef_byteOf_99 : decode mRef_byteOf.2.1 99 = .ok (.iaload, 1) := by decide +kernel
theorem dRef_byteOf_100 : decode mRef_byteOf.2.1 100 = .ok (.ireturn, 1) := by decide +kernel
theorem dRef_isFull_0 : decode mRef_isFull.2.1 0 = .ok (.iconst 1, 1) := by decide +kernel
theorem dRef_isFull_1 : decode mRef_isFull.2.1 1 = .ok (.istore_n 2, 1) := by decide +kernel
theorem dRef_isFull_2 : decode mRef_isFull.2.1 2 = .ok (.iconst 0, 1) := by decide +kernel
theorem dRef_isFull_3 : decode mRef_isFull.2.1 3 = .ok (.istore_n 3, 1) := by decide +kernel
theorem dRef_isFull_4 : decode mRef_isFull.2.1 4 = .ok (.iload_n 3, 1) := by decide +kernel
theorem dRef_isFull_5 : decode mRef_isFull.2.1 5 = .ok (.bipush 12, 2) := by decide +kernel
theorem dRef_isFull_7 : decode mRef_isFull.2.1 7 = .ok (.aload_n 0, 1) := by decide +kernel
theorem dRef_isFull_8 : decode mRef_isFull.2.1 8 = .ok (.getfield 74, 3) := by decide +kernel
theorem dRef_isFull_11 : decode mRef_isFull.2.1 11 = .ok (.imul, 1) := by decide +kernel
theorem dRef_isFull_12 : decode mRef_isFull.2.1 12 = .ok (.if_icmp .ge 46, 3) := by decide +kernel
theorem dRef_isFull_15 : decode mRef_isFull.2.1 15 = .ok (.iload_n 2, 1) := by decide +kernel
theorem dRef_isFull_16 : decode mRef_isFull.2.1 16 = .ok (.ifCond .eq 34, 3) := by decide +kernel
theorem dRef_isFull_19 : decode mRef_isFull.2.1 19 = .ok (.iload_n 3, 1) := by decide +kernel
theorem dRef_isFull_20 : decode mRef_isFull.2.1 20 = .ok (.bipush 12, 2) := by decide +kernel
theorem dRef_isFull_22 : decode mRef_isFull.2.1 22 = .ok (.irem, 1) := by decide +kernel
theorem dRef_isFull_23 : decode mRef_isFull.2.1 23 = .ok (.aload_n 0, 1) := by decide +kernel
theorem dRef_isFull_24 : decode mRef_isFull.2.1 24 = .ok (.getfield 71, 3) := by decide +kernel
theorem dRef_isFull_27 : decode mRef_isFull.2.1 27 = .ok (.if_icmp .ge 19, 3) := by decide +kernel
theorem dRef_isFull_30 : decode mRef_isFull.2.1 30 = .ok (.aload_n 0, 1) := by decide +kernel
theorem dRef_isFull_31 : decode mRef_isFull.2.1 31 = .ok (.getfield 7, 3) := by decide +kernel
theorem dRef_isFull_34 : decode mRef_isFull.2.1 34 = .ok (.iconst 4, 1) := by decide +kernel
theorem dRef_isFull_35 : decode mRef_isFull.2.1 35 = .ok (.iload_n 3, 1) := by decide +kernel
theorem dRef_isFull_36 : decode mRef_isFull.2.1 36 = .ok (.imul, 1) := by decide +kernel
theorem dRef_isFull_37 : decode mRef_isFull.2.1 37 = .ok (.iload_n 1, 1) := by decide +kernel
theorem dRef_isFull_38 : decode mRef_isFull.2.1 38 = .ok (.iadd, 1) := by decide +kernel
theorem dRef_isFull_39 : decode mRef_isFull.2.1 39 = .ok (.iaload, 1) := by decide +kernel
theorem dRef_isFull_40 : decode mRef_isFull.2.1 40 = .ok (.sipush 255, 3) := by decide +kernel
theorem dRef_isFull_43 : decode mRef_isFull.2.1 43 = .ok (.if_icmp .ne 7, 3) := by decide +kernel
theorem dRef_isFull_46 : decode mRef_isFull.2.1 46 = .ok (.iconst 1, 1) := by decide +kernel
theorem dRef_isFull_47 : decode mRef_isFull.2.1 47 = .ok (.goto 4, 3) := by decide +kernel
theorem dRef_isFull_50 : decode mRef_isFull.2.1 50 = .ok (.iconst 0, 1) := by decide +kernel
theorem dRef_isFull_51 : decode mRef_isFull.2.1 51 = .ok (.istore_n 2, 1) := by decide +kernel
theorem dRef_isFull_52 : decode mRef_isFull.2.1 52 = .ok (.iinc 3 1, 3) := by decide +kernel
theorem dRef_isFull_55 : decode mRef_isFull.2.1 55 = .ok (.goto (-51), 3) := by decide +kernel
theorem dRef_isFull_58 : decode mRef_isFull.2.1 58 = .ok (.iload_n 2, 1) := by decide +kernel
theorem dRef_isFull_59 : decode mRef_isFull.2.1 59 = .ok (.ireturn, 1) := by decide +kernel
theorem dRef_isGrey_0 : decode mRef_isGrey.2.1 0 = .ok (.iconst 1, 1) := by decide +kernel
theorem dRef_isGrey_1 : decode mRef_isGrey.2.1 1 = .ok (.istore_n 1, 1) := by decide +kernel
theorem dRef_isGrey_2 : decode mRef_isGrey.2.1 2 = .ok (.iconst 0, 1) := by decide +kernel
theorem dRef_isGrey_3 : decode mRef_isGrey.2.1 3 = .ok (.istore_n 2, 1) := by decide +kernel
theorem dRef_isGrey_4 : decode mRef_isGrey.2.1 4 = .ok (.iload_n 2, 1) := by decide +kernel
theorem dRef_isGrey_5 : decode mRef_isGrey.2.1 5 = .ok (.bipush 12, 2) := by decide +kernel
theorem dRef_isGrey_7 : decode mRef_isGrey.2.1 7 = .ok (.aload_n 0, 1) := by decide +kernel
theorem dRef_isGrey_8 : decode mRef_isGrey.2.1 8 = .ok (.getfield 74, 3) := by decide +kernel
theorem dRef_isGrey_11 : decode mRef_isGrey.2.1 11 = .ok (.imul, 1) := by decide +kernel
theorem dRef_isGrey_12 : decode mRef_isGrey.2.1 12 = .ok (.if_icmp .ge 72, 3) := by decide +kernel
theorem dRef_isGrey_15 : decode mRef_isGrey.2.1 15 = .ok (.iload_n 1, 1) := by decide +kernel
theorem dRef_isGrey_16 : decode mRef_isGrey.2.1 16 = .ok (.ifCond .eq 60, 3) := by decide +kernel
theorem dRef_isGrey_19 : decode mRef_isGrey.2.1 19 = .ok (.iload_n 2, 1) := by decide +kernel
theorem dRef_isGrey_20 : decode mRef_isGrey.2.1 20 = .ok (.bipush 12, 2) := by decide +kernel
theorem dRef_isGrey_22 : decode mRef_isGrey.2.1 22 = .ok (.irem, 1) := by decide +kernel
theorem dRef_isGrey_23 : decode mRef_isGrey.2.1 23 = .ok (.aload_n 0, 1) := by decide +kernel
theorem dRef_isGrey_24 : decode mRef_isGrey.2.1 24 = .ok (.getfield 71, 3) := by decide +kernel
theorem dRef_isGrey_27 : decode mRef_isGrey.2.1 27 = .ok (.if_icmp .ge 45, 3) := by decide +kernel
theorem dRef_isGrey_30 : decode mRef_isGrey.2.1 30 = .ok (.aload_n 0, 1) := by decide +kernel
theorem dRef_isGrey_31 : decode mRef_isGrey.2.1 31 = .ok (.getfield 7, 3) := by decide +kernel
theorem dRef_isGrey_34 : decode mRef_isGrey.2.1 34 = .ok (.iconst 4, 1) := by decide +kernel
theorem dRef_isGrey_35 : decode mRef_isGrey.2.1 35 = .ok (.iload_n 2, 1) := by decide +kernel
theorem dRef_isGrey_36 : decode mRef_isGrey.2.1 36 = .ok (.imul, 1) := by decide +kernel
theorem dRef_isGrey_37 : decode mRef_isGrey.2.1 37 = .ok (.iaload, 1) := by decide +kernel
theorem dRef_isGrey_38 : decode mRef_isGrey.2.1 38 = .ok (.aload_n 0, 1) := by decide +kernel
theorem dRef_isGrey_39 : decode mRef_isGrey.2.1 39 = .ok (.getfield 7, 3) := by decide +kernel
theorem dRef_isGrey_42 : decode mRef_isGrey.2.1 42 = .ok (.iconst 4, 1) := by decide +kernel
theorem dRef_isGrey_43 : decode mRef_isGrey.2.1 43 = .ok (.iload_n 2, 1) := by decide +kernel
theorem dRef_isGrey_44 : decode mRef_isGrey.2.1 44 = .ok (.imul, 1) := by decide +kernel
theorem dRef_isGrey_45 : decode mRef_isGrey.2.1 45 = .ok (.iconst 1, 1) := by decide +kernel
theorem dRef_isGrey_46 : decode mRef_isGrey.2.1 46 = .ok (.iadd, 1) := by decide +kernel
theorem dRef_isGrey_47 : decode mRef_isGrey.2.1 47 = .ok (.iaload, 1) := by decide +kernel
theorem dRef_isGrey_48 : decode mRef_isGrey.2.1 48 = .ok (.if_icmp .ne 28, 3) := by decide +kernel
theorem dRef_isGrey_51 : decode mRef_isGrey.2.1 51 = .ok (.aload_n 0, 1) := by decide +kernel
theorem dRef_isGrey_52 : decode mRef_isGrey.2.1 52 = .ok (.getfield 7, 3) := by decide +kernel
theorem dRef_isGrey_55 : decode mRef_isGrey.2.1 55 = .ok (.iconst 4, 1) := by decide +kernel
theorem dRef_isGrey_56 : decode mRef_isGrey.2.1 56 = .ok (.iload_n 2, 1) := by decide +kernel
theorem dRef_isGrey_57 : decode mRef_isGrey.2.1 57 = .ok (.imul, 1) := by decide +kernel
theorem dRef_isGrey_58 : decode mRef_isGrey.2.1 58 = .ok (.iaload, 1) := by decide +kernel
theorem dRef_isGrey_59 : decode mRef_isGrey.2.1 59 = .ok (.aload_n 0, 1) := by decide +kernel
theorem dRef_isGrey_60 : decode mRef_isGrey.2.1 60 = .ok (.getfield 7, 3) := by decide +kernel
theorem dRef_isGrey_63 : decode mRef_isGrey.2.1 63 = .ok (.iconst 4, 1) := by decide +kernel
theorem dRef_isGrey_64 : decode mRef_isGrey.2.1 64 = .ok (.iload_n 2, 1) := by decide +kernel
theorem dRef_isGrey_65 : decode mRef_isGrey.2.1 65 = .ok (.imul, 1) := by decide +kernel
theorem dRef_isGrey_66 : decode mRef_isGrey.2.1 66 = .ok (.iconst 2, 1) := by decide +kernel
theorem dRef_isGrey_67 : decode mRef_isGrey.2.1 67 = .ok (.iadd, 1) := by decide +kernel
theorem dRef_isGrey_68 : decode mRef_isGrey.2.1 68 = .ok (.iaload, 1) := by decide +kernel
theorem dRef_isGrey_69 : decode mRef_isGrey.2.1 69 = .ok (.if_icmp .ne 7, 3) := by decide +kernel
theorem dRef_isGrey_72 : decode mRef_isGrey.2.1 72 = .ok (.iconst 1, 1) := by decide +kernel
theorem dRef_isGrey_73 : decode mRef_isGrey.2.1 73 = .ok (.goto 4, 3) := by decide +kernel
theorem dRef_isGrey_76 : decode mRef_isGrey.2.1 76 = .ok (.iconst 0, 1) := by decide +kernel
theorem dRef_isGrey_77 : decode mRef_isGrey.2.1 77 = .ok (.istore_n 1, 1) := by decide +kernel
theorem dRef_isGrey_78 : decode mRef_isGrey.2.1 78 = .ok (.iinc 2 1, 3) := by decide +kernel
theorem dRef_isGrey_81 : decode mRef_isGrey.2.1 81 = .ok (.goto (-77), 3) := by decide +kernel
theorem dRef_isGrey_84 : decode mRef_isGrey.2.1 84 = .ok (.iload_n 1, 1) := by decide +kernel
theorem dRef_isGrey_85 : decode mRef_isGrey.2.1 85 = .ok (.ireturn, 1) := by decide +kernel
theorem dRef_greatest_0 : decode mRef_greatest.2.1 0 = .ok (.iconst 1, 1) := by decide +kernel
theorem dRef_greatest_1 : decode mRef_greatest.2.1 1 = .ok (.iload_n 0, 1) := by decide +kernel
theorem dRef_greatest_2 : decode mRef_greatest.2.1 2 = .ok (.ishl, 1) := by decide +kernel
theorem dRef_greatest_3 : decode mRef_greatest.2.1 3 = .ok (.iconst 1, 1) := by decide +kernel
theorem dRef_greatest_4 : decode mRef_greatest.2.1 4 = .ok (.isub, 1) := by decide +kernel
theorem dRef_greatest_5 : decode mRef_greatest.2.1 5 = .ok (.ireturn, 1) := by decide +kernel
theorem dRef_fits_0 : decode mRef_fits.2.1 0 = .ok (.aload_n 0, 1) := by decide +kernel
theorem dRef_fits_1 : decode mRef_fits.2.1 1 = .ok (.getfield 77, 3) := by decide +kernel
theorem dRef_fits_4 : decode mRef_fits.2.1 4 = .ok (.invokestatic 131, 3) := by decide +kernel
theorem dRef_fits_7 : decode mRef_fits.2.1 7 = .ok (.iload_n 1, 1) := by decide +kernel
theorem dRef_fits_8 : decode mRef_fits.2.1 8 = .ok (.invokestatic 131, 3) := by decide +kernel
theorem dRef_fits_11 : decode mRef_fits.2.1 11 = .ok (.idiv, 1) := by decide +kernel
theorem dRef_fits_12 : decode mRef_fits.2.1 12 = .ok (.istore_n 2, 1) := by decide +kernel
theorem dRef_fits_13 : decode mRef_fits.2.1 13 = .ok (.iconst 1, 1) := by decide +kernel
theorem dRef_fits_14 : decode mRef_fits.2.1 14 = .ok (.istore_n 3, 1) := by decide +kernel
theorem dRef_fits_15 : decode mRef_fits.2.1 15 = .ok (.iconst 0, 1) := by decide +kernel
theorem dRef_fits_16 : decode mRef_fits.2.1 16 = .ok (.istore 4, 2) := by decide +kernel
theorem dRef_fits_18 : decode mRef_fits.2.1 18 = .ok (.iload 4, 2) := by decide +kernel
theorem dRef_fits_20 : decode mRef_fits.2.1 20 = .ok (.bipush 12, 2) := by decide +kernel
theorem dRef_fits_22 : decode mRef_fits.2.1 22 = .ok (.aload_n 0, 1) := by decide +kernel
theorem dRef_fits_23 : decode mRef_fits.2.1 23 = .ok (.getfield 74, 3) := by decide +kernel
theorem dRef_fits_26 : decode mRef_fits.2.1 26 = .ok (.imul, 1) := by decide +kernel
theorem dRef_fits_27 : decode mRef_fits.2.1 27 = .ok (.if_icmp .ge 45, 3) := by decide +kernel
theorem dRef_fits_30 : decode mRef_fits.2.1 30 = .ok (.iload_n 3, 1) := by decide +kernel
theorem dRef_fits_31 : decode mRef_fits.2.1 31 = .ok (.ifCond .eq 33, 3) := by decide +kernel
theorem dRef_fits_34 : decode mRef_fits.2.1 34 = .ok (.iload 4, 2) := by decide +kernel
theorem dRef_fits_36 : decode mRef_fits.2.1 36 = .ok (.bipush 12, 2) := by decide +kernel
theorem dRef_fits_38 : decode mRef_fits.2.1 38 = .ok (.irem, 1) := by decide +kernel
theorem dRef_fits_39 : decode mRef_fits.2.1 39 = .ok (.aload_n 0, 1) := by decide +kernel
theorem dRef_fits_40 : decode mRef_fits.2.1 40 = .ok (.getfield 71, 3) := by decide +kernel
theorem dRef_fits_43 : decode mRef_fits.2.1 43 = .ok (.if_icmp .ge 17, 3) := by decide +kernel
theorem dRef_fits_46 : decode mRef_fits.2.1 46 = .ok (.aload_n 0, 1) := by decide +kernel
theorem dRef_fits_47 : decode mRef_fits.2.1 47 = .ok (.getfield 7, 3) := by decide +kernel
theorem dRef_fits_50 : decode mRef_fits.2.1 50 = .ok (.iconst 4, 1) := by decide +kernel
theorem dRef_fits_51 : decode mRef_fits.2.1 51 = .ok (.iload 4, 2) := by decide +kernel
theorem dRef_fits_53 : decode mRef_fits.2.1 53 = .ok (.imul, 1) := by decide +kernel
theorem dRef_fits_54 : decode mRef_fits.2.1 54 = .ok (.iaload, 1) := by decide +kernel
theorem dRef_fits_55 : decode mRef_fits.2.1 55 = .ok (.iload_n 2, 1) := by decide +kernel
theorem dRef_fits_56 : decode mRef_fits.2.1 56 = .ok (.irem, 1) := by decide +kernel
theorem dRef_fits_57 : decode mRef_fits.2.1 57 = .ok (.ifCond .ne 7, 3) := by decide +kernel
theorem dRef_fits_60 : decode mRef_fits.2.1 60 = .ok (.iconst 1, 1) := by decide +kernel
theorem dRef_fits_61 : decode mRef_fits.2.1 61 = .ok (.goto 4, 3) := by decide +kernel
theorem dRef_fits_64 : decode mRef_fits.2.1 64 = .ok (.iconst 0, 1) := by decide +kernel
theorem dRef_fits_65 : decode mRef_fits.2.1 65 = .ok (.istore_n 3, 1) := by decide +kernel
theorem dRef_fits_66 : decode mRef_fits.2.1 66 = .ok (.iinc 4 1, 3) := by decide +kernel
theorem dRef_fits_69 : decode mRef_fits.2.1 69 = .ok (.goto (-51), 3) := by decide +kernel
theorem dRef_fits_72 : decode mRef_fits.2.1 72 = .ok (.iload_n 3, 1) := by decide +kernel
theorem dRef_fits_73 : decode mRef_fits.2.1 73 = .ok (.ireturn, 1) := by decide +kernel
theorem dRef_lessen_0 : decode mRef_lessen.2.1 0 = .ok (.aload_n 0, 1) := by decide +kernel
theorem dRef_lessen_1 : decode mRef_lessen.2.1 1 = .ok (.aload_n 0, 1) := by decide +kernel
theorem dRef_lessen_2 : decode mRef_lessen.2.1 2 = .ok (.getfield 80, 3) := by decide +kernel
theorem dRef_lessen_5 : decode mRef_lessen.2.1 5 = .ok (.bipush 6, 2) := by decide +kernel
theorem dRef_lessen_7 : decode mRef_lessen.2.1 7 = .ok (.if_icmp .ne 15, 3) := by decide +kernel
theorem dRef_lessen_10 : decode mRef_lessen.2.1 10 = .ok (.aload_n 0, 1) := by decide +kernel
theorem dRef_lessen_11 : decode mRef_lessen.2.1 11 = .ok (.iconst 3, 1) := by decide +kernel
theorem dRef_lessen_12 : decode mRef_lessen.2.1 12 = .ok (.invokevirtual 134, 3) := by decide +kernel
theorem dRef_lessen_15 : decode mRef_lessen.2.1 15 = .ok (.ifCond .eq 7, 3) := by decide +kernel
theorem dRef_lessen_18 : decode mRef_lessen.2.1 18 = .ok (.iconst 2, 1) := by decide +kernel
theorem dRef_lessen_19 : decode mRef_lessen.2.1 19 = .ok (.goto 27, 3) := by decide +kernel
theorem dRef_lessen_22 : decode mRef_lessen.2.1 22 = .ok (.aload_n 0, 1) := by decide +kernel
theorem dRef_lessen_23 : decode mRef_lessen.2.1 23 = .ok (.getfield 80, 3) := by decide +kernel
theorem dRef_lessen_26 : decode mRef_lessen.2.1 26 = .ok (.iconst 4, 1) := by decide +kernel
theorem dRef_lessen_27 : decode mRef_lessen.2.1 27 = .ok (.if_icmp .ne 15, 3) := by decide +kernel
theorem dRef_lessen_30 : decode mRef_lessen.2.1 30 = .ok (.aload_n 0, 1) := by decide +kernel
theorem dRef_lessen_31 : decode mRef_lessen.2.1 31 = .ok (.iconst 1, 1) := by decide +kernel
theorem dRef_lessen_32 : decode mRef_lessen.2.1 32 = .ok (.invokevirtual 134, 3) := by decide +kernel
theorem dRef_lessen_35 : decode mRef_lessen.2.1 35 = .ok (.ifCond .eq 7, 3) := by decide +kernel
theorem dRef_lessen_38 : decode mRef_lessen.2.1 38 = .ok (.iconst 0, 1) := by decide +kernel
theorem dRef_lessen_39 : decode mRef_lessen.2.1 39 = .ok (.goto 7, 3) := by decide +kernel
theorem dRef_lessen_42 : decode mRef_lessen.2.1 42 = .ok (.aload_n 0, 1) := by decide +kernel
theorem dRef_lessen_43 : decode mRef_lessen.2.1 43 = .ok (.getfield 80, 3) := by decide +kernel
theorem dRef_lessen_46 : decode mRef_lessen.2.1 46 = .ok (.putfield 80, 3) := by decide +kernel
theorem dRef_lessen_49 : decode mRef_lessen.2.1 49 = .ok (.aload_n 0, 1) := by decide +kernel
theorem dRef_lessen_50 : decode mRef_lessen.2.1 50 = .ok (.aload_n 0, 1) := by decide +kernel
theorem dRef_lessen_51 : decode mRef_lessen.2.1 51 = .ok (.getfield 80, 3) := by decide +kernel
theorem dRef_lessen_54 : decode mRef_lessen.2.1 54 = .ok (.iconst 2, 1) := by decide +kernel
theorem dRef_lessen_55 : decode mRef_lessen.2.1 55 = .ok (.if_icmp .ne 14, 3) := by decide +kernel
theorem dRef_lessen_58 : decode mRef_lessen.2.1 58 = .ok (.aload_n 0, 1) := by decide +kernel
theorem dRef_lessen_59 : decode mRef_lessen.2.1 59 = .ok (.invokevirtual 137, 3) := by decide +kernel
theorem dRef_lessen_62 : decode mRef_lessen.2.1 62 = .ok (.ifCond .eq 7, 3) := by decide +kernel
theorem dRef_lessen_65 : decode mRef_lessen.2.1 65 = .ok (.iconst 0, 1) := by decide +kernel
theorem dRef_lessen_66 : decode mRef_lessen.2.1 66 = .ok (.goto 7, 3) := by decide +kernel
theorem dRef_lessen_69 : decode mRef_lessen.2.1 69 = .ok (.aload_n 0, 1) := by decide +kernel
theorem dRef_lessen_70 : decode mRef_lessen.2.1 70 = .ok (.getfield 80, 3) := by decide +kernel
theorem dRef_lessen_73 : decode mRef_lessen.2.1 73 = .ok (.putfield 80, 3) := by decide +kernel
theorem dRef_lessen_76 : decode mRef_lessen.2.1 76 = .ok (.iconst 1, 1) := by decide +kernel
theorem dRef_lessen_77 : decode mRef_lessen.2.1 77 = .ok (.istore_n 1, 1) := by decide +kernel
theorem dRef_lessen_78 : decode mRef_lessen.2.1 78 = .ok (.iload_n 1, 1) := by decide +kernel
theorem dRef_lessen_79 : decode mRef_lessen.2.1 79 = .ok (.aload_n 0, 1) := by decide +kernel
theorem dRef_lessen_80 : decode mRef_lessen.2.1 80 = .ok (.getfield 77, 3) := by decide +kernel
theorem dRef_lessen_83 : decode mRef_lessen.2.1 83 = .ok (.if_icmp .ge 59, 3) := by decide +kernel
theorem dRef_lessen_86 : decode mRef_lessen.2.1 86 = .ok (.aload_n 0, 1) := by decide +kernel
theorem dRef_lessen_87 : decode mRef_lessen.2.1 87 = .ok (.getfield 80, 3) := by decide +kernel
theorem dRef_lessen_90 : decode mRef_lessen.2.1 90 = .ok (.ifCond .ne 11, 3) := by decide +kernel
theorem dRef_lessen_93 : decode mRef_lessen.2.1 93 = .ok (.aload_n 0, 1) := by decide +kernel
theorem dRef_lessen_94 : decode mRef_lessen.2.1 94 = .ok (.iload_n 1, 1) := by decide +kernel
theorem dRef_lessen_95 : decode mRef_lessen.2.1 95 = .ok (.invokevirtual 141, 3) := by decide +kernel
theorem dRef_lessen_98 : decode mRef_lessen.2.1 98 = .ok (.ifCond .eq 37, 3) := by decide +kernel
theorem dRef_lessen_101 : decode mRef_lessen.2.1 101 = .ok (.aload_n 0, 1) := by decide +kernel
theorem dRef_lessen_102 : decode mRef_lessen.2.1 102 = .ok (.getfield 80, 3) := by decide +kernel
theorem dRef_lessen_105 : decode mRef_lessen.2.1 105 = .ok (.iconst 3, 1) := by decide +kernel
theorem dRef_lessen_106 : decode mRef_lessen.2.1 106 = .ok (.if_icmp .ne 14, 3) := by decide +kernel
theorem dRef_lessen_109 : decode mRef_lessen.2.1 109 = .ok (.aload_n 0, 1) := by decide +kernel
theorem dRef_lessen_110 : decode mRef_lessen.2.1 110 = .ok (.getfield 83, 3) := by decide +kernel
theorem dRef_lessen_113 : decode mRef_lessen.2.1 113 = .ok (.iload_n 1, 1) := by decide +kernel
theorem dRef_lessen_114 : decode mRef_lessen.2.1 114 = .ok (.invokestatic 93, 3) := by decide +kernel
theorem dRef_lessen_117 : decode mRef_lessen.2.1 117 = .ok (.if_icmp .gt 18, 3) := by decide +kernel
theorem dRef_lessen_120 : decode mRef_lessen.2.1 120 = .ok (.aload_n 0, 1) := by decide +kernel
theorem dRef_lessen_121 : decode mRef_lessen.2.1 121 = .ok (.getfield 80, 3) := by decide +kernel
theorem dRef_lessen_124 : decode mRef_lessen.2.1 124 = .ok (.ifCond .eq 18, 3) := by decide +kernel
theorem dRef_lessen_127 : decode mRef_lessen.2.1 127 = .ok (.aload_n 0, 1) := by decide +kernel
theorem dRef_lessen_128 : decode mRef_lessen.2.1 128 = .ok (.getfield 80, 3) := by decide +kernel
theorem dRef_lessen_131 : decode mRef_lessen.2.1 131 = .ok (.iconst 3, 1) := by decide +kernel
theorem dRef_lessen_132 : decode mRef_lessen.2.1 132 = .ok (.if_icmp .eq 10, 3) := by decide +kernel
theorem dRef_lessen_135 : decode mRef_lessen.2.1 135 = .ok (.iconst 2, 1) := by decide +kernel
theorem dRef_lessen_136 : decode mRef_lessen.2.1 136 = .ok (.iload_n 1, 1) := by decide +kernel
theorem dRef_lessen_137 : decode mRef_lessen.2.1 137 = .ok (.imul, 1) := by decide +kernel
theorem dRef_lessen_138 : decode mRef_lessen.2.1 138 = .ok (.istore_n 1, 1) := by decide +kernel
theorem dRef_lessen_139 : decode mRef_lessen.2.1 139 = .ok (.goto (-61), 3) := by decide +kernel
theorem dRef_lessen_142 : decode mRef_lessen.2.1 142 = .ok (.aload_n 0, 1) := by decide +kernel
theorem dRef_lessen_143 : decode mRef_lessen.2.1 143 = .ok (.getfield 77, 3) := by decide +kernel
theorem dRef_lessen_146 : decode mRef_lessen.2.1 146 = .ok (.invokestatic 131, 3) := by decide +kernel
theorem dRef_lessen_149 : decode mRef_lessen.2.1 149 = .ok (.iload_n 1, 1) := by decide +kernel
theorem dRef_lessen_150 : decode mRef_lessen.2.1 150 = .ok (.invokestatic 131, 3) := by decide +kernel
theorem dRef_lessen_153 : decode mRef_lessen.2.1 153 = .ok (.idiv, 1) := by decide +kernel
theorem dRef_lessen_154 : decode mRef_lessen.2.1 154 = .ok (.istore_n 2, 1) := by decide +kernel
theorem dRef_lessen_155 : decode mRef_lessen.2.1 155 = .ok (.iconst 0, 1) := by decide +kernel
theorem dRef_lessen_156 : decode mRef_lessen.2.1 156 = .ok (.istore_n 3, 1) := by decide +kernel
theorem dRef_lessen_157 : decode mRef_lessen.2.1 157 = .ok (.iload_n 3, 1) := by decide +kernel
theorem dRef_lessen_158 : decode mRef_lessen.2.1 158 = .ok (.sipush 144, 3) := by decide +kernel
theorem dRef_lessen_161 : decode mRef_lessen.2.1 161 = .ok (.if_icmp .ge 34, 3) := by decide +kernel
theorem dRef_lessen_164 : decode mRef_lessen.2.1 164 = .ok (.aload_n 0, 1) := by decide +kernel
theorem dRef_lessen_165 : decode mRef_lessen.2.1 165 = .ok (.getfield 80, 3) := by decide +kernel
theorem dRef_lessen_168 : decode mRef_lessen.2.1 168 = .ok (.ifCond .ne 27, 3) := by decide +kernel
theorem dRef_lessen_171 : decode mRef_lessen.2.1 171 = .ok (.aload_n 0, 1) := by decide +kernel
theorem dRef_lessen_172 : decode mRef_lessen.2.1 172 = .ok (.getfield 7, 3) := by decide +kernel
theorem dRef_lessen_175 : decode mRef_lessen.2.1 175 = .ok (.iconst 4, 1) := by decide +kernel
theorem dRef_lessen_176 : decode mRef_lessen.2.1 176 = .ok (.iload_n 3, 1) := by decide +kernel
theorem dRef_lessen_177 : decode mRef_lessen.2.1 177 = .ok (.imul, 1) := by decide +kernel
theorem dRef_lessen_178 : decode mRef_lessen.2.1 178 = .ok (.aload_n 0, 1) := by decide +kernel
theorem dRef_lessen_179 : decode mRef_lessen.2.1 179 = .ok (.getfield 7, 3) := by decide +kernel
theorem dRef_lessen_182 : decode mRef_lessen.2.1 182 = .ok (.iconst 4, 1) := by decide +kernel
theorem dRef_lessen_183 : decode mRef_lessen.2.1 183 = .ok (.iload_n 3, 1) := by decide +kernel
theorem dRef_lessen_184 : decode mRef_lessen.2.1 184 = .ok (.imul, 1) := by decide +kernel
theorem dRef_lessen_185 : decode mRef_lessen.2.1 185 = .ok (.iaload, 1) := by decide +kernel
theorem dRef_lessen_186 : decode mRef_lessen.2.1 186 = .ok (.iload_n 2, 1) := by decide +kernel
theorem dRef_lessen_187 : decode mRef_lessen.2.1 187 = .ok (.idiv, 1) := by decide +kernel
theorem dRef_lessen_188 : decode mRef_lessen.2.1 188 = .ok (.iastore, 1) := by decide +kernel
theorem dRef_lessen_189 : decode mRef_lessen.2.1 189 = .ok (.iinc 3 1, 3) := by decide +kernel
theorem dRef_lessen_192 : decode mRef_lessen.2.1 192 = .ok (.goto (-35), 3) := by decide +kernel
theorem dRef_lessen_195 : decode mRef_lessen.2.1 195 = .ok (.aload_n 0, 1) := by decide +kernel
theorem dRef_lessen_196 : decode mRef_lessen.2.1 196 = .ok (.iload_n 1, 1) := by decide +kernel
theorem dRef_lessen_197 : decode mRef_lessen.2.1 197 = .ok (.putfield 77, 3) := by decide +kernel
theorem dRef_lessen_200 : decode mRef_lessen.2.1 200 = .ok (.return_, 1) := by decide +kernel
theorem dRef_reduce_0 : decode mRef_reduce.2.1 0 = .ok (.aload_n 0, 1) := by decide +kernel
theorem dRef_reduce_1 : decode mRef_reduce.2.1 1 = .ok (.aload_n 0, 1) := by decide +kernel
theorem dRef_reduce_2 : decode mRef_reduce.2.1 2 = .ok (.getfield 67, 3) := by decide +kernel
theorem dRef_reduce_5 : decode mRef_reduce.2.1 5 = .ok (.ifCond .eq 7, 3) := by decide +kernel
theorem dRef_reduce_8 : decode mRef_reduce.2.1 8 = .ok (.iconst 0, 1) := by decide +kernel
theorem dRef_reduce_9 : decode mRef_reduce.2.1 9 = .ok (.goto 4, 3) := by decide +kernel
theorem dRef_reduce_12 : decode mRef_reduce.2.1 12 = .ok (.iconst 1, 1) := by decide +kernel
theorem dRef_reduce_13 : decode mRef_reduce.2.1 13 = .ok (.putfield 59, 3) := by decide +kernel
theorem dRef_reduce_16 : decode mRef_reduce.2.1 16 = .ok (.aload_n 0, 1) := by decide +kernel
theorem dRef_reduce_17 : decode mRef_reduce.2.1 17 = .ok (.getfield 59, 3) := by decide +kernel
theorem dRef_reduce_20 : decode mRef_reduce.2.1 20 = .ok (.ifCond .le 5, 3) := by decide +kernel
theorem dRef_reduce_23 : decode mRef_reduce.2.1 23 = .ok (.iconst 0, 1) := by decide +kernel
theorem dRef_reduce_24 : decode mRef_reduce.2.1 24 = .ok (.ireturn, 1) := by decide +kernel
theorem dRef_reduce_25 : decode mRef_reduce.2.1 25 = .ok (.aload_n 0, 1) := by decide +kernel
theorem dRef_reduce_26 : decode mRef_reduce.2.1 26 = .ok (.getfield 80, 3) := by decide +kernel
theorem dRef_reduce_29 : decode mRef_reduce.2.1 29 = .ok (.istore_n 1, 1) := by decide +kernel
theorem dRef_reduce_30 : decode mRef_reduce.2.1 30 = .ok (.aload_n 0, 1) := by decide +kernel
theorem dRef_reduce_31 : decode mRef_reduce.2.1 31 = .ok (.getfield 77, 3) := by decide +kernel
theorem dRef_reduce_34 : decode mRef_reduce.2.1 34 = .ok (.istore_n 2, 1) := by decide +kernel
theorem dRef_reduce_35 : decode mRef_reduce.2.1 35 = .ok (.aload_n 0, 1) := by decide +kernel
theorem dRef_reduce_36 : decode mRef_reduce.2.1 36 = .ok (.invokevirtual 144, 3) := by decide +kernel
theorem dRef_reduce_39 : decode mRef_reduce.2.1 39 = .ok (.aload_n 0, 1) := by decide +kernel
theorem dRef_reduce_40 : decode mRef_reduce.2.1 40 = .ok (.getfield 80, 3) := by decide +kernel
theorem dRef_reduce_43 : decode mRef_reduce.2.1 43 = .ok (.iload_n 1, 1) := by decide +kernel
theorem dRef_reduce_44 : decode mRef_reduce.2.1 44 = .ok (.if_icmp .ne 11, 3) := by decide +kernel
theorem dRef_reduce_47 : decode mRef_reduce.2.1 47 = .ok (.aload_n 0, 1) := by decide +kernel
theorem dRef_reduce_48 : decode mRef_reduce.2.1 48 = .ok (.getfield 77, 3) := by decide +kernel
theorem dRef_reduce_51 : decode mRef_reduce.2.1 51 = .ok (.iload_n 2, 1) := by decide +kernel
theorem dRef_reduce_52 : decode mRef_reduce.2.1 52 = .ok (.if_icmp .eq 7, 3) := by decide +kernel
theorem dRef_reduce_55 : decode mRef_reduce.2.1 55 = .ok (.aload_n 0, 1) := by decide +kernel
theorem dRef_reduce_56 : decode mRef_reduce.2.1 56 = .ok (.invokevirtual 97, 3) := by decide +kernel
theorem dRef_reduce_59 : decode mRef_reduce.2.1 59 = .ok (.bipush 10, 2) := by decide +kernel
theorem dRef_reduce_61 : decode mRef_reduce.2.1 61 = .ok (.aload_n 0, 1) := by decide +kernel
theorem dRef_reduce_62 : decode mRef_reduce.2.1 62 = .ok (.getfield 80, 3) := by decide +kernel
theorem dRef_reduce_65 : decode mRef_reduce.2.1 65 = .ok (.imul, 1) := by decide +kernel
theorem dRef_reduce_66 : decode mRef_reduce.2.1 66 = .ok (.aload_n 0, 1) := by decide +kernel
theorem dRef_reduce_67 : decode mRef_reduce.2.1 67 = .ok (.getfield 77, 3) := by decide +kernel
theorem dRef_reduce_70 : decode mRef_reduce.2.1 70 = .ok (.iadd, 1) := by decide +kernel
theorem dRef_reduce_71 : decode mRef_reduce.2.1 71 = .ok (.ireturn, 1) := by decide +kernel
theorem dRef_tell_0 : decode mRef_tell.2.1 0 = .ok (.aload_n 0, 1) := by decide +kernel
theorem dRef_tell_1 : decode mRef_tell.2.1 1 = .ok (.getfield 46, 3) := by decide +kernel
theorem dRef_tell_4 : decode mRef_tell.2.1 4 = .ok (.aload_n 0, 1) := by decide +kernel
theorem dRef_tell_5 : decode mRef_tell.2.1 5 = .ok (.getfield 147, 3) := by decide +kernel
theorem dRef_tell_8 : decode mRef_tell.2.1 8 = .ok (.iload_n 1, 1) := by decide +kernel
theorem dRef_tell_9 : decode mRef_tell.2.1 9 = .ok (.iastore, 1) := by decide +kernel
theorem dRef_tell_10 : decode mRef_tell.2.1 10 = .ok (.aload_n 0, 1) := by decide +kernel
theorem dRef_tell_11 : decode mRef_tell.2.1 11 = .ok (.dup, 1) := by decide +kernel
theorem dRef_tell_12 : decode mRef_tell.2.1 12 = .ok (.getfield 147, 3) := by decide +kernel
theorem dRef_tell_15 : decode mRef_tell.2.1 15 = .ok (.iconst 1, 1) := by decide +kernel
theorem dRef_tell_16 : decode mRef_tell.2.1 16 = .ok (.iadd, 1) := by decide +kernel
theorem dRef_tell_17 : decode mRef_tell.2.1 17 = .ok (.putfield 147, 3) := by decide +kernel
theorem dRef_tell_20 : decode mRef_tell.2.1 20 = .ok (.return_, 1) := by decide +kernel
theorem dRef_tellNumber_0 : decode mRef_tellNumber.2.1 0 = .ok (.iconst 0, 1) := by decide +kernel
theorem dRef_tellNumber_1 : decode mRef_tellNumber.2.1 1 = .ok (.istore_n 2, 1) := by decide +kernel
theorem dRef_tellNumber_2 : decode mRef_tellNumber.2.1 2 = .ok (.iload_n 2, 1) := by decide +kernel
theorem dRef_tellNumber_3 : decode mRef_tellNumber.2.1 3 = .ok (.iconst 4, 1) := by decide +kernel
theorem dRef_tellNumber_4 : decode mRef_tellNumber.2.1 4 = .ok (.if_icmp .ge 26, 3) := by decide +kernel
theorem dRef_tellNumber_7 : decode mRef_tellNumber.2.1 7 = .ok (.aload_n 0, 1) := by decide +kernel
theorem dRef_tellNumber_8 : decode mRef_tellNumber.2.1 8 = .ok (.iload_n 1, 1) := by decide +kernel
theorem dRef_tellNumber_9 : decode mRef_tellNumber.2.1 9 = .ok (.bipush 24, 2) := by decide +kernel
theorem dRef_tellNumber_11 : decode mRef_tellNumber.2.1 11 = .ok (.bipush 8, 2) := by decide +kernel
theorem dRef_tellNumber_13 : decode mRef_tellNumber.2.1 13 = .ok (.iload_n 2, 1) := by decide +kernel
theorem dRef_tellNumber_14 : decode mRef_tellNumber.2.1 14 = .ok (.imul, 1) := by decide +kernel
theorem dRef_tellNumber_15 : decode mRef_tellNumber.2.1 15 = .ok (.isub, 1) := by decide +kernel
theorem dRef_tellNumber_16 : decode mRef_tellNumber.2.1 16 = .ok (.ishr, 1) := by decide +kernel
theorem dRef_tellNumber_17 : decode mRef_tellNumber.2.1 17 = .ok (.sipush 255, 3) := by decide +kernel
theorem dRef_tellNumber_20 : decode mRef_tellNumber.2.1 20 = .ok (.iand, 1) := by decide +kernel
theorem dRef_tellNumber_21 : decode mRef_tellNumber.2.1 21 = .ok (.invokevirtual 150, 3) := by decide +kernel
theorem dRef_tellNumber_24 : decode mRef_tellNumber.2.1 24 = .ok (.iinc 2 1, 3) := by decide +kernel
theorem dRef_tellNumber_27 : decode mRef_tellNumber.2.1 27 = .ok (.goto (-25), 3) := by decide +kernel
theorem dRef_tellNumber_30 : decode mRef_tellNumber.2.1 30 = .ok (.return_, 1) := by decide +kernel
theorem dRef_sumOf_0 : decode mRef_sumOf.2.1 0 = .ok (.ldc2_w 154, 3) := by decide +kernel
theorem dRef_sumOf_3 : decode mRef_sumOf.2.1 3 = .ok (.lstore_n 3, 1) := by decide +kernel
theorem dRef_sumOf_4 : decode mRef_sumOf.2.1 4 = .ok (.iload_n 1, 1) := by decide +kernel
theorem dRef_sumOf_5 : decode mRef_sumOf.2.1 5 = .ok (.istore 5, 2) := by decide +kernel
theorem dRef_sumOf_7 : decode mRef_sumOf.2.1 7 = .ok (.iload 5, 2) := by decide +kernel
theorem dRef_sumOf_9 : decode mRef_sumOf.2.1 9 = .ok (.iload_n 2, 1) := by decide +kernel
theorem dRef_sumOf_10 : decode mRef_sumOf.2.1 10 = .ok (.if_icmp .ge 61, 3) := by decide +kernel
theorem dRef_sumOf_13 : decode mRef_sumOf.2.1 13 = .ok (.lload_n 3, 1) := by decide +kernel
theorem dRef_sumOf_14 : decode mRef_sumOf.2.1 14 = .ok (.aload_n 0, 1) := by decide +kernel
theorem dRef_sumOf_15 : decode mRef_sumOf.2.1 15 = .ok (.iload 5, 2) := by decide +kernel
theorem dRef_sumOf_17 : decode mRef_sumOf.2.1 17 = .ok (.iaload, 1) := by decide +kernel
theorem dRef_sumOf_18 : decode mRef_sumOf.2.1 18 = .ok (.i2l, 1) := by decide +kernel
theorem dRef_sumOf_19 : decode mRef_sumOf.2.1 19 = .ok (.lxor, 1) := by decide +kernel
theorem dRef_sumOf_20 : decode mRef_sumOf.2.1 20 = .ok (.lstore_n 3, 1) := by decide +kernel
theorem dRef_sumOf_21 : decode mRef_sumOf.2.1 21 = .ok (.iconst 0, 1) := by decide +kernel
theorem dRef_sumOf_22 : decode mRef_sumOf.2.1 22 = .ok (.istore 6, 2) := by decide +kernel
theorem dRef_sumOf_24 : decode mRef_sumOf.2.1 24 = .ok (.iload 6, 2) := by decide +kernel
theorem dRef_sumOf_26 : decode mRef_sumOf.2.1 26 = .ok (.bipush 8, 2) := by decide +kernel
theorem dRef_sumOf_28 : decode mRef_sumOf.2.1 28 = .ok (.if_icmp .ge 37, 3) := by decide +kernel
theorem dRef_sumOf_31 : decode mRef_sumOf.2.1 31 = .ok (.lload_n 3, 1) := by decide +kernel
theorem dRef_sumOf_32 : decode mRef_sumOf.2.1 32 = .ok (.ldc2_w 156, 3) := by decide +kernel
theorem dRef_sumOf_35 : decode mRef_sumOf.2.1 35 = .ok (.lrem, 1) := by decide +kernel
theorem dRef_sumOf_36 : decode mRef_sumOf.2.1 36 = .ok (.lconst 0, 1) := by decide +kernel
theorem dRef_sumOf_37 : decode mRef_sumOf.2.1 37 = .ok (.lcmp, 1) := by decide +kernel
theorem dRef_sumOf_38 : decode mRef_sumOf.2.1 38 = .ok (.ifCond .ne 11, 3) := by decide +kernel
theorem dRef_sumOf_41 : decode mRef_sumOf.2.1 41 = .ok (.lload_n 3, 1) := by decide +kernel
theorem dRef_sumOf_42 : decode mRef_sumOf.2.1 42 = .ok (.ldc2_w 156, 3) := by decide +kernel
theorem dRef_sumOf_45 : decode mRef_sumOf.2.1 45 = .ok (.ldiv, 1) := by decide +kernel
theorem dRef_sumOf_46 : decode mRef_sumOf.2.1 46 = .ok (.goto 12, 3) := by decide +kernel
theorem dRef_sumOf_49 : decode mRef_sumOf.2.1 49 = .ok (.lload_n 3, 1) := by decide +kernel
theorem dRef_sumOf_50 : decode mRef_sumOf.2.1 50 = .ok (.ldc2_w 156, 3) := by decide +kernel
theorem dRef_sumOf_53 : decode mRef_sumOf.2.1 53 = .ok (.ldiv, 1) := by decide +kernel
theorem dRef_sumOf_54 : decode mRef_sumOf.2.1 54 = .ok (.ldc2_w 158, 3) := by decide +kernel
theorem dRef_sumOf_57 : decode mRef_sumOf.2.1 57 = .ok (.lxor, 1) := by decide +kernel
theorem dRef_sumOf_58 : decode mRef_sumOf.2.1 58 = .ok (.lstore_n 3, 1) := by decide +kernel
theorem dRef_sumOf_59 : decode mRef_sumOf.2.1 59 = .ok (.iinc 6 1, 3) := by decide +kernel
theorem dRef_sumOf_62 : decode mRef_sumOf.2.1 62 = .ok (.goto (-38), 3) := by decide +kernel
theorem dRef_sumOf_65 : decode mRef_sumOf.2.1 65 = .ok (.iinc 5 1, 3) := by decide +kernel
theorem dRef_sumOf_68 : decode mRef_sumOf.2.1 68 = .ok (.goto (-61), 3) := by decide +kernel
theorem dRef_sumOf_71 : decode mRef_sumOf.2.1 71 = .ok (.ldc2_w 154, 3) := by decide +kernel
theorem dRef_sumOf_74 : decode mRef_sumOf.2.1 74 = .ok (.lload_n 3, 1) := by decide +kernel
theorem dRef_sumOf_75 : decode mRef_sumOf.2.1 75 = .ok (.lsub, 1) := by decide +kernel
theorem dRef_sumOf_76 : decode mRef_sumOf.2.1 76 = .ok (.l2i, 1) := by decide +kernel
theorem dRef_sumOf_77 : decode mRef_sumOf.2.1 77 = .ok (.ireturn, 1) := by decide +kernel
theorem dRef_close_0 : decode mRef_close.2.1 0 = .ok (.aload_n 0, 1) := by decide +kernel
theorem dRef_close_1 : decode mRef_close.2.1 1 = .ok (.getfield 147, 3) := by decide +kernel
theorem dRef_close_4 : decode mRef_close.2.1 4 = .ok (.iload_n 1, 1) := by decide +kernel
theorem dRef_close_5 : decode mRef_close.2.1 5 = .ok (.isub, 1) := by decide +kernel
theorem dRef_close_6 : decode mRef_close.2.1 6 = .ok (.bipush 8, 2) := by decide +kernel
theorem dRef_close_8 : decode mRef_close.2.1 8 = .ok (.isub, 1) := by decide +kernel
theorem dRef_close_9 : decode mRef_close.2.1 9 = .ok (.istore_n 2, 1) := by decide +kernel
theorem dRef_close_10 : decode mRef_close.2.1 10 = .ok (.iconst 0, 1) := by decide +kernel
theorem dRef_close_11 : decode mRef_close.2.1 11 = .ok (.istore_n 3, 1) := by decide +kernel
theorem dRef_close_12 : decode mRef_close.2.1 12 = .ok (.iload_n 3, 1) := by decide +kernel
theorem dRef_close_13 : decode mRef_close.2.1 13 = .ok (.iconst 4, 1) := by decide +kernel
theorem dRef_close_14 : decode mRef_close.2.1 14 = .ok (.if_icmp .ge 30, 3) := by decide +kernel
theorem dRef_close_17 : decode mRef_close.2.1 17 = .ok (.aload_n 0, 1) := by decide +kernel
theorem dRef_close_18 : decode mRef_close.2.1 18 = .ok (.getfield 46, 3) := by decide +kernel
theorem dRef_close_21 : decode mRef_close.2.1 21 = .ok (.iload_n 1, 1) := by decide +kernel
theorem dRef_close_22 : decode mRef_close.2.1 22 = .ok (.iload_n 3, 1) := by decide +kernel
theorem dRef_close_23 : decode mRef_close.2.1 23 = .ok (.iadd, 1) := by decide +kernel
theorem dRef_close_24 : decode mRef_close.2.1 24 = .ok (.iload_n 2, 1) := by decide +kernel
theorem dRef_close_25 : decode mRef_close.2.1 25 = .ok (.bipush 24, 2) := by decide +kernel
theorem dRef_close_27 : decode mRef_close.2.1 27 = .ok (.bipush 8, 2) := by decide +kernel
theorem dRef_close_29 : decode mRef_close.2.1 29 = .ok (.iload_n 3, 1) := by decide +kernel
theorem dRef_close_30 : decode mRef_close.2.1 30 = .ok (.imul, 1) := by decide +kernel
theorem dRef_close_31 : decode mRef_close.2.1 31 = .ok (.isub, 1) := by decide +kernel
theorem dRef_close_32 : decode mRef_close.2.1 32 = .ok (.ishr, 1) := by decide +kernel
theorem dRef_close_33 : decode mRef_close.2.1 33 = .ok (.sipush 255, 3) := by decide +kernel
theorem dRef_close_36 : decode mRef_close.2.1 36 = .ok (.iand, 1) := by decide +kernel
theorem dRef_close_37 : decode mRef_close.2.1 37 = .ok (.iastore, 1) := by decide +kernel
theorem dRef_close_38 : decode mRef_close.2.1 38 = .ok (.iinc 3 1, 3) := by decide +kernel
theorem dRef_close_41 : decode mRef_close.2.1 41 = .ok (.goto (-29), 3) := by decide +kernel
theorem dRef_close_44 : decode mRef_close.2.1 44 = .ok (.aload_n 0, 1) := by decide +kernel
theorem dRef_close_45 : decode mRef_close.2.1 45 = .ok (.aload_n 0, 1) := by decide +kernel
theorem dRef_close_46 : decode mRef_close.2.1 46 = .ok (.getfield 46, 3) := by decide +kernel
theorem dRef_close_49 : decode mRef_close.2.1 49 = .ok (.iload_n 1, 1) := by decide +kernel
theorem dRef_close_50 : decode mRef_close.2.1 50 = .ok (.iconst 4, 1) := by decide +kernel
theorem dRef_close_51 : decode mRef_close.2.1 51 = .ok (.iadd, 1) := by decide +kernel
theorem dRef_close_52 : decode mRef_close.2.1 52 = .ok (.aload_n 0, 1) := by decide +kernel
theorem dRef_close_53 : decode mRef_close.2.1 53 = .ok (.getfield 147, 3) := by decide +kernel
theorem dRef_close_56 : decode mRef_close.2.1 56 = .ok (.invokestatic 160, 3) := by decide +kernel
theorem dRef_close_59 : decode mRef_close.2.1 59 = .ok (.invokevirtual 164, 3) := by decide +kernel
theorem dRef_close_62 : decode mRef_close.2.1 62 = .ok (.return_, 1) := by decide +kernel
theorem dRef_open_0 : decode mRef_open.2.1 0 = .ok (.aload_n 0, 1) := by decide +kernel
theorem dRef_open_1 : decode mRef_open.2.1 1 = .ok (.getfield 147, 3) := by decide +kernel
theorem dRef_open_4 : decode mRef_open.2.1 4 = .ok (.istore_n 2, 1) := by decide +kernel
theorem dRef_open_5 : decode mRef_open.2.1 5 = .ok (.aload_n 0, 1) := by decide +kernel
theorem dRef_open_6 : decode mRef_open.2.1 6 = .ok (.iconst 0, 1) := by decide +kernel
theorem dRef_open_7 : decode mRef_open.2.1 7 = .ok (.invokevirtual 164, 3) := by decide +kernel
theorem dRef_open_10 : decode mRef_open.2.1 10 = .ok (.aload_n 0, 1) := by decide +kernel
theorem dRef_open_11 : decode mRef_open.2.1 11 = .ok (.iload_n 1, 1) := by decide +kernel
theorem dRef_open_12 : decode mRef_open.2.1 12 = .ok (.invokevirtual 164, 3) := by decide +kernel
theorem dRef_open_15 : decode mRef_open.2.1 15 = .ok (.iload_n 2, 1) := by decide +kernel
theorem dRef_open_16 : decode mRef_open.2.1 16 = .ok (.ireturn, 1) := by decide +kernel
theorem dRef_writeTags_0 : decode mRef_writeTags.2.1 0 = .ok (.aload_n 0, 1) := by decide +kernel
theorem dRef_writeTags_1 : decode mRef_writeTags.2.1 1 = .ok (.getfield 16, 3) := by decide +kernel
theorem dRef_writeTags_4 : decode mRef_writeTags.2.1 4 = .ok (.iconst 0, 1) := by decide +kernel
theorem dRef_writeTags_5 : decode mRef_writeTags.2.1 5 = .ok (.iaload, 1) := by decide +kernel
theorem dRef_writeTags_6 : decode mRef_writeTags.2.1 6 = .ok (.iconst (-1), 1) := by decide +kernel
theorem dRef_writeTags_7 : decode mRef_writeTags.2.1 7 = .ok (.if_icmp .eq 25, 3) := by decide +kernel
theorem dRef_writeTags_10 : decode mRef_writeTags.2.1 10 = .ok (.aload_n 0, 1) := by decide +kernel
theorem dRef_writeTags_11 : decode mRef_writeTags.2.1 11 = .ok (.ldc 124, 2) := by decide +kernel
theorem dRef_writeTags_13 : decode mRef_writeTags.2.1 13 = .ok (.invokevirtual 167, 3) := by decide +kernel
theorem dRef_writeTags_16 : decode mRef_writeTags.2.1 16 = .ok (.istore_n 1, 1) := by decide +kernel
theorem dRef_writeTags_17 : decode mRef_writeTags.2.1 17 = .ok (.aload_n 0, 1) := by decide +kernel
theorem dRef_writeTags_18 : decode mRef_writeTags.2.1 18 = .ok (.aload_n 0, 1) := by decide +kernel
theorem dRef_writeTags_19 : decode mRef_writeTags.2.1 19 = .ok (.getfield 16, 3) := by decide +kernel
theorem dRef_writeTags_22 : decode mRef_writeTags.2.1 22 = .ok (.iconst 0, 1) := by decide +kernel
theorem dRef_writeTags_23 : decode mRef_writeTags.2.1 23 = .ok (.iaload, 1) := by decide +kernel
theorem dRef_writeTags_24 : decode mRef_writeTags.2.1 24 = .ok (.invokevirtual 164, 3) := by decide +kernel
theorem dRef_writeTags_27 : decode mRef_writeTags.2.1 27 = .ok (.aload_n 0, 1) := by decide +kernel
theorem dRef_writeTags_28 : decode mRef_writeTags.2.1 28 = .ok (.iload_n 1, 1) := by decide +kernel
theorem dRef_writeTags_29 : decode mRef_writeTags.2.1 29 = .ok (.invokevirtual 170, 3) := by decide +kernel
theorem dRef_writeTags_32 : decode mRef_writeTags.2.1 32 = .ok (.aload_n 0, 1) := by decide +kernel
theorem dRef_writeTags_33 : decode mRef_writeTags.2.1 33 = .ok (.getfield 16, 3) := by decide +kernel
theorem dRef_writeTags_36 : decode mRef_writeTags.2.1 36 = .ok (.iconst 1, 1) := by decide +kernel
theorem dRef_writeTags_37 : decode mRef_writeTags.2.1 37 = .ok (.iaload, 1) := by decide +kernel
theorem dRef_writeTags_38 : decode mRef_writeTags.2.1 38 = .ok (.iconst (-1), 1) := by decide +kernel
theorem dRef_writeTags_39 : decode mRef_writeTags.2.1 39 = .ok (.if_icmp .eq 25, 3) := by decide +kernel
theorem dRef_writeTags_42 : decode mRef_writeTags.2.1 42 = .ok (.aload_n 0, 1) := by decide +kernel
theorem dRef_writeTags_43 : decode mRef_writeTags.2.1 43 = .ok (.ldc 125, 2) := by decide +kernel
theorem dRef_writeTags_45 : decode mRef_writeTags.2.1 45 = .ok (.invokevirtual 167, 3) := by decide +kernel
theorem dRef_writeTags_48 : decode mRef_writeTags.2.1 48 = .ok (.istore_n 1, 1) := by decide +kernel
theorem dRef_writeTags_49 : decode mRef_writeTags.2.1 49 = .ok (.aload_n 0, 1) := by decide +kernel
theorem dRef_writeTags_50 : decode mRef_writeTags.2.1 50 = .ok (.aload_n 0, 1) := by decide +kernel
theorem dRef_writeTags_51 : decode mRef_writeTags.2.1 51 = .ok (.getfield 16, 3) := by decide +kernel
theorem dRef_writeTags_54 : decode mRef_writeTags.2.1 54 = .ok (.iconst 1, 1) := by decide +kernel
theorem dRef_writeTags_55 : decode mRef_writeTags.2.1 55 = .ok (.iaload, 1) := by decide +kernel
theorem dRef_writeTags_56 : decode mRef_writeTags.2.1 56 = .ok (.invokevirtual 150, 3) := by decide +kernel
theorem dRef_writeTags_59 : decode mRef_writeTags.2.1 59 = .ok (.aload_n 0, 1) := by decide +kernel
theorem dRef_writeTags_60 : decode mRef_writeTags.2.1 60 = .ok (.iload_n 1, 1) := by decide +kernel
theorem dRef_writeTags_61 : decode mRef_writeTags.2.1 61 = .ok (.invokevirtual 170, 3) := by decide +kernel
theorem dRef_writeTags_64 : decode mRef_writeTags.2.1 64 = .ok (.aload_n 0, 1) := by decide +kernel
theorem dRef_writeTags_65 : decode mRef_writeTags.2.1 65 = .ok (.getfield 16, 3) := by decide +kernel
theorem dRef_writeTags_68 : decode mRef_writeTags.2.1 68 = .ok (.iconst 2, 1) := by decide +kernel
theorem dRef_writeTags_69 : decode mRef_writeTags.2.1 69 = .ok (.iaload, 1) := by decide +kernel
theorem dRef_writeTags_70 : decode mRef_writeTags.2.1 70 = .ok (.iconst (-1), 1) := by decide +kernel
theorem dRef_writeTags_71 : decode mRef_writeTags.2.1 71 = .ok (.if_icmp .eq 40, 3) := by decide +kernel
theorem dRef_writeTags_74 : decode mRef_writeTags.2.1 74 = .ok (.aload_n 0, 1) := by decide +kernel
theorem dRef_writeTags_75 : decode mRef_writeTags.2.1 75 = .ok (.ldc 126, 2) := by decide +kernel
theorem dRef_writeTags_77 : decode mRef_writeTags.2.1 77 = .ok (.invokevirtual 167, 3) := by decide +kernel
theorem dRef_writeTags_80 : decode mRef_writeTags.2.1 80 = .ok (.istore_n 1, 1) := by decide +kernel
theorem dRef_writeTags_81 : decode mRef_writeTags.2.1 81 = .ok (.aload_n 0, 1) := by decide +kernel
theorem dRef_writeTags_82 : decode mRef_writeTags.2.1 82 = .ok (.aload_n 0, 1) := by decide +kernel
theorem dRef_writeTags_83 : decode mRef_writeTags.2.1 83 = .ok (.getfield 16, 3) := by decide +kernel
theorem dRef_writeTags_86 : decode mRef_writeTags.2.1 86 = .ok (.iconst 2, 1) := by decide +kernel
theorem dRef_writeTags_87 : decode mRef_writeTags.2.1 87 = .ok (.iaload, 1) := by decide +kernel
theorem dRef_writeTags_88 : decode mRef_writeTags.2.1 88 = .ok (.invokevirtual 164, 3) := by decide +kernel
theorem dRef_writeTags_91 : decode mRef_writeTags.2.1 91 = .ok (.aload_n 0, 1) := by decide +kernel
theorem dRef_writeTags_92 : decode mRef_writeTags.2.1 92 = .ok (.aload_n 0, 1) := by decide +kernel
theorem dRef_writeTags_93 : decode mRef_writeTags.2.1 93 = .ok (.getfield 16, 3) := by decide +kernel
theorem dRef_writeTags_96 : decode mRef_writeTags.2.1 96 = .ok (.iconst 2, 1) := by decide +kernel
theorem dRef_writeTags_97 : decode mRef_writeTags.2.1 97 = .ok (.iaload, 1) := by decide +kernel
theorem dRef_writeTags_98 : decode mRef_writeTags.2.1 98 = .ok (.invokevirtual 164, 3) := by decide +kernel
theorem dRef_writeTags_101 : decode mRef_writeTags.2.1 101 = .ok (.aload_n 0, 1) := by decide +kernel
theorem dRef_writeTags_102 : decode mRef_writeTags.2.1 102 = .ok (.iconst 1, 1) := by decide +kernel
theorem dRef_writeTags_103 : decode mRef_writeTags.2.1 103 = .ok (.invokevirtual 150, 3) := by decide +kernel
theorem dRef_writeTags_106 : decode mRef_writeTags.2.1 106 = .ok (.aload_n 0, 1) := by decide +kernel
theorem dRef_writeTags_107 : decode mRef_writeTags.2.1 107 = .ok (.iload_n 1, 1) := by decide +kernel
theorem dRef_writeTags_108 : decode mRef_writeTags.2.1 108 = .ok (.invokevirtual 170, 3) := by decide +kernel
theorem dRef_writeTags_111 : decode mRef_writeTags.2.1 111 = .ok (.return_, 1) := by decide +kernel
theorem dRef_writePalette_0 : decode mRef_writePalette.2.1 0 = .ok (.aload_n 0, 1) := by decide +kernel
theorem dRef_writePalette_1 : decode mRef_writePalette.2.1 1 = .ok (.ldc 173, 2) := by decide +kernel
theorem dRef_writePalette_3 : decode mRef_writePalette.2.1 3 = .ok (.invokevirtual 167, 3) := by decide +kernel
theorem dRef_writePalette_6 : decode mRef_writePalette.2.1 6 = .ok (.istore_n 1, 1) := by decide +kernel
theorem dRef_writePalette_7 : decode mRef_writePalette.2.1 7 = .ok (.iconst 0, 1) := by decide +kernel
theorem dRef_writePalette_8 : decode mRef_writePalette.2.1 8 = .ok (.istore_n 2, 1) := by decide +kernel
theorem dRef_writePalette_9 : decode mRef_writePalette.2.1 9 = .ok (.iconst 0, 1) := by decide +kernel
theorem dRef_writePalette_10 : decode mRef_writePalette.2.1 10 = .ok (.istore_n 3, 1) := by decide +kernel
theorem dRef_writePalette_11 : decode mRef_writePalette.2.1 11 = .ok (.iload_n 3, 1) := by decide +kernel
theorem dRef_writePalette_12 : decode mRef_writePalette.2.1 12 = .ok (.aload_n 0, 1) := by decide +kernel
theorem dRef_writePalette_13 : decode mRef_writePalette.2.1 13 = .ok (.getfield 83, 3) := by decide +kernel
theorem dRef_writePalette_16 : decode mRef_writePalette.2.1 16 = .ok (.if_icmp .ge 73, 3) := by decide +kernel
theorem dRef_writePalette_19 : decode mRef_writePalette.2.1 19 = .ok (.aload_n 0, 1) := by decide +kernel
theorem dRef_writePalette_20 : decode mRef_writePalette.2.1 20 = .ok (.aload_n 0, 1) := by decide +kernel
theorem dRef_writePalette_21 : decode mRef_writePalette.2.1 21 = .ok (.getfield 13, 3) := by decide +kernel
theorem dRef_writePalette_24 : decode mRef_writePalette.2.1 24 = .ok (.iconst 4, 1) := by decide +kernel
theorem dRef_writePalette_25 : decode mRef_writePalette.2.1 25 = .ok (.iload_n 3, 1) := by decide +kernel
theorem dRef_writePalette_26 : decode mRef_writePalette.2.1 26 = .ok (.imul, 1) := by decide +kernel
theorem dRef_writePalette_27 : decode mRef_writePalette.2.1 27 = .ok (.iaload, 1) := by decide +kernel
theorem dRef_writePalette_28 : decode mRef_writePalette.2.1 28 = .ok (.invokevirtual 150, 3) := by decide +kernel
theorem dRef_writePalette_31 : decode mRef_writePalette.2.1 31 = .ok (.aload_n 0, 1) := by decide +kernel
theorem dRef_writePalette_32 : decode mRef_writePalette.2.1 32 = .ok (.aload_n 0, 1) := by decide +kernel
theorem dRef_writePalette_33 : decode mRef_writePalette.2.1 33 = .ok (.getfield 13, 3) := by decide +kernel
theorem dRef_writePalette_36 : decode mRef_writePalette.2.1 36 = .ok (.iconst 4, 1) := by decide +kernel
theorem dRef_writePalette_37 : decode mRef_writePalette.2.1 37 = .ok (.iload_n 3, 1) := by decide +kernel
theorem dRef_writePalette_38 : decode mRef_writePalette.2.1 38 = .ok (.imul, 1) := by decide +kernel
theorem dRef_writePalette_39 : decode mRef_writePalette.2.1 39 = .ok (.iconst 1, 1) := by decide +kernel
theorem dRef_writePalette_40 : decode mRef_writePalette.2.1 40 = .ok (.iadd, 1) := by decide +kernel
theorem dRef_writePalette_41 : decode mRef_writePalette.2.1 41 = .ok (.iaload, 1) := by decide +kernel
theorem dRef_writePalette_42 : decode mRef_writePalette.2.1 42 = .ok (.invokevirtual 150, 3) := by decide +kernel
theorem dRef_writePalette_45 : decode mRef_writePalette.2.1 45 = .ok (.aload_n 0, 1) := by decide +kernel
theorem dRef_writePalette_46 : decode mRef_writePalette.2.1 46 = .ok (.aload_n 0, 1) := by decide +kernel
theorem dRef_writePalette_47 : decode mRef_writePalette.2.1 47 = .ok (.getfield 13, 3) := by decide +kernel
theorem dRef_writePalette_50 : decode mRef_writePalette.2.1 50 = .ok (.iconst 4, 1) := by decide +kernel
theorem dRef_writePalette_51 : decode mRef_writePalette.2.1 51 = .ok (.iload_n 3, 1) := by decide +kernel
theorem dRef_writePalette_52 : decode mRef_writePalette.2.1 52 = .ok (.imul, 1) := by decide +kernel
theorem dRef_writePalette_53 : decode mRef_writePalette.2.1 53 = .ok (.iconst 2, 1) := by decide +kernel
theorem dRef_writePalette_54 : decode mRef_writePalette.2.1 54 = .ok (.iadd, 1) := by decide +kernel
theorem dRef_writePalette_55 : decode mRef_writePalette.2.1 55 = .ok (.iaload, 1) := by decide +kernel
theorem dRef_writePalette_56 : decode mRef_writePalette.2.1 56 = .ok (.invokevirtual 150, 3) := by decide +kernel
theorem dRef_writePalette_59 : decode mRef_writePalette.2.1 59 = .ok (.aload_n 0, 1) := by decide +kernel
theorem dRef_writePalette_60 : decode mRef_writePalette.2.1 60 = .ok (.getfield 13, 3) := by decide +kernel
theorem dRef_writePalette_63 : decode mRef_writePalette.2.1 63 = .ok (.iconst 4, 1) := by decide +kernel
theorem dRef_writePalette_64 : decode mRef_writePalette.2.1 64 = .ok (.iload_n 3, 1) := by decide +kernel
theorem dRef_writePalette_65 : decode mRef_writePalette.2.1 65 = .ok (.imul, 1) := by decide +kernel
theorem dRef_writePalette_66 : decode mRef_writePalette.2.1 66 = .ok (.iconst 3, 1) := by decide +kernel
theorem dRef_writePalette_67 : decode mRef_writePalette.2.1 67 = .ok (.iadd, 1) := by decide +kernel
theorem dRef_writePalette_68 : decode mRef_writePalette.2.1 68 = .ok (.iaload, 1) := by decide +kernel
theorem dRef_writePalette_69 : decode mRef_writePalette.2.1 69 = .ok (.sipush 255, 3) := by decide +kernel
theorem dRef_writePalette_72 : decode mRef_writePalette.2.1 72 = .ok (.if_icmp .ge 9, 3) := by decide +kernel
theorem dRef_writePalette_75 : decode mRef_writePalette.2.1 75 = .ok (.iload_n 3, 1) := by decide +kernel
theorem dRef_writePalette_76 : decode mRef_writePalette.2.1 76 = .ok (.iconst 1, 1) := by decide +kernel
theorem dRef_writePalette_77 : decode mRef_writePalette.2.1 77 = .ok (.iadd, 1) := by decide +kernel
theorem dRef_writePalette_78 : decode mRef_writePalette.2.1 78 = .ok (.goto 4, 3) := by decide +kernel
theorem dRef_writePalette_81 : decode mRef_writePalette.2.1 81 = .ok (.iload_n 2, 1) := by decide +kernel
theorem dRef_writePalette_82 : decode mRef_writePalette.2.1 82 = .ok (.istore_n 2, 1) := by decide +kernel
theorem dRef_writePalette_83 : decode mRef_writePalette.2.1 83 = .ok (.iinc 3 1, 3) := by decide +kernel
theorem dRef_writePalette_86 : decode mRef_writePalette.2.1 86 = .ok (.goto (-75), 3) := by decide +kernel
theorem dRef_writePalette_89 : decode mRef_writePalette.2.1 89 = .ok (.aload_n 0, 1) := by decide +kernel
theorem dRef_writePalette_90 : decode mRef_writePalette.2.1 90 = .ok (.iload_n 1, 1) := by decide +kernel
theorem dRef_writePalette_91 : decode mRef_writePalette.2.1 91 = .ok (.invokevirtual 170, 3) := by decide +kernel
theorem dRef_writePalette_94 : decode mRef_writePalette.2.1 94 = .ok (.iload_n 2, 1) := by decide +kernel
theorem dRef_writePalette_95 : decode mRef_writePalette.2.1 95 = .ok (.ifCond .le 42, 3) := by decide +kernel
theorem dRef_writePalette_98 : decode mRef_writePalette.2.1 98 = .ok (.aload_n 0, 1) := by decide +kernel
theorem dRef_writePalette_99 : decode mRef_writePalette.2.1 99 = .ok (.ldc 127, 2) := by decide +kernel
theorem dRef_writePalette_101 : decode mRef_writePalette.2.1 101 = .ok (.invokevirtual 167, 3) := by decide +kernel
theorem dRef_writePalette_104 : decode mRef_writePalette.2.1 104 = .ok (.istore_n 1, 1) := by decide +kernel
theorem dRef_writePalette_105 : decode mRef_writePalette.2.1 105 = .ok (.iconst 0, 1) := by decide +kernel
theorem dRef_writePalette_106 : decode mRef_writePalette.2.1 106 = .ok (.istore_n 3, 1) := by decide +kernel
theorem dRef_writePalette_107 : decode mRef_writePalette.2.1 107 = .ok (.iload_n 3, 1) := by decide +kernel
theorem dRef_writePalette_108 : decode mRef_writePalette.2.1 108 = .ok (.iload_n 2, 1) := by decide +kernel
theorem dRef_writePalette_109 : decode mRef_writePalette.2.1 109 = .ok (.if_icmp .ge 23, 3) := by decide +kernel
theorem dRef_writePalette_112 : decode mRef_writePalette.2.1 112 = .ok (.aload_n 0, 1) := by decide +kernel
theorem dRef_writePalette_113 : decode mRef_writePalette.2.1 113 = .ok (.aload_n 0, 1) := by decide +kernel
theorem dRef_writePalette_114 : decode mRef_writePalette.2.1 114 = .ok (.getfield 13, 3) := by decide +kernel
theorem dRef_writePalette_117 : decode mRef_writePalette.2.1 117 = .ok (.iconst 4, 1) := by decide +kernel
theorem dRef_writePalette_118 : decode mRef_writePalette.2.1 118 = .ok (.iload_n 3, 1) := by decide +kernel
theorem dRef_writePalette_119 : decode mRef_writePalette.2.1 119 = .ok (.imul, 1) := by decide +kernel
theorem dRef_writePalette_120 : decode mRef_writePalette.2.1 120 = .ok (.iconst 3, 1) := by decide +kernel
theorem dRef_writePalette_121 : decode mRef_writePalette.2.1 121 = .ok (.iadd, 1) := by decide +kernel
theorem dRef_writePalette_122 : decode mRef_writePalette.2.1 122 = .ok (.iaload, 1) := by decide +kernel
theorem dRef_writePalette_123 : decode mRef_writePalette.2.1 123 = .ok (.invokevirtual 150, 3) := by decide +kernel
theorem dRef_writePalette_126 : decode mRef_writePalette.2.1 126 = .ok (.iinc 3 1, 3) := by decide +kernel
theorem dRef_writePalette_129 : decode mRef_writePalette.2.1 129 = .ok (.goto (-22), 3) := by decide +kernel
theorem dRef_writePalette_132 : decode mRef_writePalette.2.1 132 = .ok (.aload_n 0, 1) := by decide +kernel
theorem dRef_writePalette_133 : decode mRef_writePalette.2.1 133 = .ok (.iload_n 1, 1) := by decide +kernel
theorem dRef_writePalette_134 : decode mRef_writePalette.2.1 134 = .ok (.invokevirtual 170, 3) := by decide +kernel
theorem dRef_writePalette_137 : decode mRef_writePalette.2.1 137 = .ok (.return_, 1) := by decide +kernel
theorem dRef_bytesInRow_0 : decode mRef_bytesInRow.2.1 0 = .ok (.iconst 1, 1) := by decide +kernel
theorem dRef_bytesInRow_1 : decode mRef_bytesInRow.2.1 1 = .ok (.iload_n 0, 1) := by decide +kernel
theorem dRef_bytesInRow_2 : decode mRef_bytesInRow.2.1 2 = .ok (.iload_n 1, 1) := by decide +kernel
theorem dRef_bytesInRow_3 : decode mRef_bytesInRow.2.1 3 = .ok (.invokestatic 100, 3) := by decide +kernel
theorem dRef_bytesInRow_6 : decode mRef_bytesInRow.2.1 6 = .ok (.imul, 1) := by decide +kernel
theorem dRef_bytesInRow_7 : decode mRef_bytesInRow.2.1 7 = .ok (.iload_n 2, 1) := by decide +kernel
theorem dRef_bytesInRow_8 : decode mRef_bytesInRow.2.1 8 = .ok (.imul, 1) := by decide +kernel
theorem dRef_bytesInRow_9 : decode mRef_bytesInRow.2.1 9 = .ok (.bipush 7, 2) := by decide +kernel
theorem dRef_bytesInRow_11 : decode mRef_bytesInRow.2.1 11 = .ok (.iadd, 1) := by decide +kernel
theorem dRef_bytesInRow_12 : decode mRef_bytesInRow.2.1 12 = .ok (.bipush 8, 2) := by decide +kernel
theorem dRef_bytesInRow_14 : decode mRef_bytesInRow.2.1 14 = .ok (.idiv, 1) := by decide +kernel
theorem dRef_bytesInRow_15 : decode mRef_bytesInRow.2.1 15 = .ok (.iadd, 1) := by decide +kernel
theorem dRef_bytesInRow_16 : decode mRef_bytesInRow.2.1 16 = .ok (.ireturn, 1) := by decide +kernel
theorem dRef_rowByte_0 : decode mRef_rowByte.2.1 0 = .ok (.aload_n 0, 1) := by decide +kernel
theorem dRef_rowByte_1 : decode mRef_rowByte.2.1 1 = .ok (.getfield 71, 3) := by decide +kernel
theorem dRef_rowByte_4 : decode mRef_rowByte.2.1 4 = .ok (.aload_n 0, 1) := by decide +kernel
theorem dRef_rowByte_5 : decode mRef_rowByte.2.1 5 = .ok (.getfield 80, 3) := by decide +kernel
theorem dRef_rowByte_8 : decode mRef_rowByte.2.1 8 = .ok (.aload_n 0, 1) := by decide +kernel
theorem dRef_rowByte_9 : decode mRef_rowByte.2.1 9 = .ok (.getfield 77, 3) := by decide +kernel
theorem dRef_rowByte_12 : decode mRef_rowByte.2.1 12 = .ok (.invokestatic 174, 3) := by decide +kernel
theorem dRef_rowByte_15 : decode mRef_rowByte.2.1 15 = .ok (.istore_n 2, 1) := by decide +kernel
theorem dRef_rowByte_16 : decode mRef_rowByte.2.1 16 = .ok (.iload_n 1, 1) := by decide +kernel
theorem dRef_rowByte_17 : decode mRef_rowByte.2.1 17 = .ok (.iload_n 2, 1) := by decide +kernel
theorem dRef_rowByte_18 : decode mRef_rowByte.2.1 18 = .ok (.idiv, 1) := by decide +kernel
theorem dRef_rowByte_19 : decode mRef_rowByte.2.1 19 = .ok (.istore_n 3, 1) := by decide +kernel
theorem dRef_rowByte_20 : decode mRef_rowByte.2.1 20 = .ok (.iload_n 1, 1) := by decide +kernel
theorem dRef_rowByte_21 : decode mRef_rowByte.2.1 21 = .ok (.iload_n 2, 1) := by decide +kernel
theorem dRef_rowByte_22 : decode mRef_rowByte.2.1 22 = .ok (.irem, 1) := by decide +kernel
theorem dRef_rowByte_23 : decode mRef_rowByte.2.1 23 = .ok (.ifCond .ne 5, 3) := by decide +kernel
theorem dRef_rowByte_26 : decode mRef_rowByte.2.1 26 = .ok (.iconst 0, 1) := by decide +kernel
theorem dRef_rowByte_27 : decode mRef_rowByte.2.1 27 = .ok (.ireturn, 1) := by decide +kernel
theorem dRef_rowByte_28 : decode mRef_rowByte.2.1 28 = .ok (.iconst 0, 1) := by decide +kernel
theorem dRef_rowByte_29 : decode mRef_rowByte.2.1 29 = .ok (.istore 4, 2) := by decide +kernel
theorem dRef_rowByte_31 : decode mRef_rowByte.2.1 31 = .ok (.bipush 8, 2) := by decide +kernel
theorem dRef_rowByte_33 : decode mRef_rowByte.2.1 33 = .ok (.iload_n 1, 1) := by decide +kernel
theorem dRef_rowByte_34 : decode mRef_rowByte.2.1 34 = .ok (.iload_n 2, 1) := by decide +kernel
theorem dRef_rowByte_35 : decode mRef_rowByte.2.1 35 = .ok (.irem, 1) := by decide +kernel
theorem dRef_rowByte_36 : decode mRef_rowByte.2.1 36 = .ok (.iconst 1, 1) := by decide +kernel
theorem dRef_rowByte_37 : decode mRef_rowByte.2.1 37 = .ok (.isub, 1) := by decide +kernel
theorem dRef_rowByte_38 : decode mRef_rowByte.2.1 38 = .ok (.imul, 1) := by decide +kernel
theorem dRef_rowByte_39 : decode mRef_rowByte.2.1 39 = .ok (.istore 5, 2) := by decide +kernel
theorem dRef_rowByte_41 : decode mRef_rowByte.2.1 41 = .ok (.iload 5, 2) := by decide +kernel
theorem dRef_rowByte_43 : decode mRef_rowByte.2.1 43 = .ok (.bipush 8, 2) := by decide +kernel
theorem dRef_rowByte_45 : decode mRef_rowByte.2.1 45 = .ok (.iload_n 1, 1) := by decide +kernel
theorem dRef_rowByte_46 : decode mRef_rowByte.2.1 46 = .ok (.iload_n 2, 1) := by decide +kernel
theorem dRef_rowByte_47 : decode mRef_rowByte.2.1 47 = .ok (.irem, 1) := by decide +kernel
theorem dRef_rowByte_48 : decode mRef_rowByte.2.1 48 = .ok (.imul, 1) := by decide +kernel
theorem dRef_rowByte_49 : decode mRef_rowByte.2.1 49 = .ok (.if_icmp .ge 94, 3) := by decide +kernel
theorem dRef_rowByte_52 : decode mRef_rowByte.2.1 52 = .ok (.iload 5, 2) := by decide +kernel
theorem dRef_rowByte_54 : decode mRef_rowByte.2.1 54 = .ok (.aload_n 0, 1) := by decide +kernel
theorem dRef_rowByte_55 : decode mRef_rowByte.2.1 55 = .ok (.getfield 77, 3) := by decide +kernel
theorem dRef_rowByte_58 : decode mRef_rowByte.2.1 58 = .ok (.idiv, 1) := by decide +kernel
theorem dRef_rowByte_59 : decode mRef_rowByte.2.1 59 = .ok (.istore 6, 2) := by decide +kernel
theorem dRef_rowByte_61 : decode mRef_rowByte.2.1 61 = .ok (.aload_n 0, 1) := by decide +kernel
theorem dRef_rowByte_62 : decode mRef_rowByte.2.1 62 = .ok (.getfield 80, 3) := by decide +kernel
theorem dRef_rowByte_65 : decode mRef_rowByte.2.1 65 = .ok (.invokestatic 100, 3) := by decide +kernel
theorem dRef_rowByte_68 : decode mRef_rowByte.2.1 68 = .ok (.istore 7, 2) := by decide +kernel
theorem dRef_rowByte_70 : decode mRef_rowByte.2.1 70 = .ok (.iload 6, 2) := by decide +kernel
theorem dRef_rowByte_72 : decode mRef_rowByte.2.1 72 = .ok (.aload_n 0, 1) := by decide +kernel
theorem dRef_rowByte_73 : decode mRef_rowByte.2.1 73 = .ok (.getfield 71, 3) := by decide +kernel
theorem dRef_rowByte_76 : decode mRef_rowByte.2.1 76 = .ok (.iload 7, 2) := by decide +kernel
theorem dRef_rowByte_78 : decode mRef_rowByte.2.1 78 = .ok (.imul, 1) := by decide +kernel
theorem dRef_rowByte_79 : decode mRef_rowByte.2.1 79 = .ok (.if_icmp .ge 29, 3) := by decide +kernel
theorem dRef_rowByte_82 : decode mRef_rowByte.2.1 82 = .ok (.aload_n 0, 1) := by decide +kernel
theorem dRef_rowByte_83 : decode mRef_rowByte.2.1 83 = .ok (.getfield 7, 3) := by decide +kernel
theorem dRef_rowByte_86 : decode mRef_rowByte.2.1 86 = .ok (.iconst 4, 1) := by decide +kernel
theorem dRef_rowByte_87 : decode mRef_rowByte.2.1 87 = .ok (.bipush 12, 2) := by decide +kernel
theorem dRef_rowByte_89 : decode mRef_rowByte.2.1 89 = .ok (.iload_n 3, 1) := by decide +kernel
theorem dRef_rowByte_90 : decode mRef_rowByte.2.1 90 = .ok (.imul, 1) := by decide +kernel
theorem dRef_rowByte_91 : decode mRef_rowByte.2.1 91 = .ok (.iload 6, 2) := by decide +kernel
theorem dRef_rowByte_93 : decode mRef_rowByte.2.1 93 = .ok (.iload 7, 2) := by decide +kernel
theorem dRef_rowByte_95 : decode mRef_rowByte.2.1 95 = .ok (.idiv, 1) := by decide +kernel
theorem dRef_rowByte_96 : decode mRef_rowByte.2.1 96 = .ok (.iadd, 1) := by decide +kernel
theorem dRef_rowByte_97 : decode mRef_rowByte.2.1 97 = .ok (.imul, 1) := by decide +kernel
theorem dRef_rowByte_98 : decode mRef_rowByte.2.1 98 = .ok (.iload 6, 2) := by decide +kernel
theorem dRef_rowByte_100 : decode mRef_rowByte.2.1 100 = .ok (.iload 7, 2) := by decide +kernel
theorem dRef_rowByte_102 : decode mRef_rowByte.2.1 102 = .ok (.irem, 1) := by decide +kernel
theorem dRef_rowByte_103 : decode mRef_rowByte.2.1 103 = .ok (.iadd, 1) := by decide +kernel
theorem dRef_rowByte_104 : decode mRef_rowByte.2.1 104 = .ok (.iaload, 1) := by decide +kernel
theorem dRef_rowByte_105 : decode mRef_rowByte.2.1 105 = .ok (.goto 4, 3) := by decide +kernel
theorem dRef_rowByte_108 : decode mRef_rowByte.2.1 108 = .ok (.iconst 0, 1) := by decide +kernel
theorem dRef_rowByte_109 : decode mRef_rowByte.2.1 109 = .ok (.istore 8, 2) := by decide +kernel
theorem dRef_rowByte_111 : decode mRef_rowByte.2.1 111 = .ok (.iconst 2, 1) := by decide +kernel
theorem dRef_rowByte_112 : decode mRef_rowByte.2.1 112 = .ok (.iload 4, 2) := by decide +kernel
theorem dRef_rowByte_114 : decode mRef_rowByte.2.1 114 = .ok (.imul, 1) := by decide +kernel
theorem dRef_rowByte_115 : decode mRef_rowByte.2.1 115 = .ok (.iload 8, 2) := by decide +kernel
theorem dRef_rowByte_117 : decode mRef_rowByte.2.1 117 = .ok (.aload_n 0, 1) := by decide +kernel
theorem dRef_rowByte_118 : decode mRef_rowByte.2.1 118 = .ok (.getfield 77, 3) := by decide +kernel
theorem dRef_rowByte_121 : decode mRef_rowByte.2.1 121 = .ok (.iconst 1, 1) := by decide +kernel
theorem dRef_rowByte_122 : decode mRef_rowByte.2.1 122 = .ok (.isub, 1) := by decide +kernel
theorem dRef_rowByte_123 : decode mRef_rowByte.2.1 123 = .ok (.iload 5, 2) := by decide +kernel
theorem dRef_rowByte_125 : decode mRef_rowByte.2.1 125 = .ok (.aload_n 0, 1) := by decide +kernel
theorem dRef_rowByte_126 : decode mRef_rowByte.2.1 126 = .ok (.getfield 77, 3) := by decide +kernel
theorem dRef_rowByte_129 : decode mRef_rowByte.2.1 129 = .ok (.irem, 1) := by decide +kernel
theorem dRef_rowByte_130 : decode mRef_rowByte.2.1 130 = .ok (.isub, 1) := by decide +kernel
theorem dRef_rowByte_131 : decode mRef_rowByte.2.1 131 = .ok (.ishr, 1) := by decide +kernel
theorem dRef_rowByte_132 : decode mRef_rowByte.2.1 132 = .ok (.iconst 1, 1) := by decide +kernel
theorem dRef_rowByte_133 : decode mRef_rowByte.2.1 133 = .ok (.iand, 1) := by decide +kernel
theorem dRef_rowByte_134 : decode mRef_rowByte.2.1 134 = .ok (.iadd, 1) := by decide +kernel
theorem dRef_rowByte_135 : decode mRef_rowByte.2.1 135 = .ok (.istore 4, 2) := by decide +kernel
theorem dRef_rowByte_137 : decode mRef_rowByte.2.1 137 = .ok (.iinc 5 1, 3) := by decide +kernel
theorem dRef_rowByte_140 : decode mRef_rowByte.2.1 140 = .ok (.goto (-99), 3) := by decide +kernel
theorem dRef_rowByte_143 : decode mRef_rowByte.2.1 143 = .ok (.iload 4, 2) := by decide +kernel
theorem dRef_rowByte_145 : decode mRef_rowByte.2.1 145 = .ok (.ireturn, 1) := by decide +kernel
theorem dRef_writeRows_0 : decode mRef_writeRows.2.1 0 = .ok (.aload_n 0, 1) := by decide +kernel
theorem dRef_writeRows_1 : decode mRef_writeRows.2.1 1 = .ok (.getfield 74, 3) := by decide +kernel
theorem dRef_writeRows_4 : decode mRef_writeRows.2.1 4 = .ok (.aload_n 0, 1) := by decide +kernel
theorem dRef_writeRows_5 : decode mRef_writeRows.2.1 5 = .ok (.getfield 71, 3) := by decide +kernel
theorem dRef_writeRows_8 : decode mRef_writeRows.2.1 8 = .ok (.aload_n 0, 1) := by decide +kernel
theorem dRef_writeRows_9 : decode mRef_writeRows.2.1 9 = .ok (.getfield 80, 3) := by decide +kernel
theorem dRef_writeRows_12 : decode mRef_writeRows.2.1 12 = .ok (.aload_n 0, 1) := by decide +kernel
theorem dRef_writeRows_13 : decode mRef_writeRows.2.1 13 = .ok (.getfield 77, 3) := by decide +kernel
theorem dRef_writeRows_16 : decode mRef_writeRows.2.1 16 = .ok (.invokestatic 174, 3) := by decide +kernel
theorem dRef_writeRows_19 : decode mRef_writeRows.2.1 19 = .ok (.imul, 1) := by decide +kernel
theorem dRef_writeRows_20 : decode mRef_writeRows.2.1 20 = .ok (.istore_n 1, 1) := by decide +kernel
theorem dRef_writeRows_21 : decode mRef_writeRows.2.1 21 = .ok (.iconst 0, 1) := by decide +kernel
theorem dRef_writeRows_22 : decode mRef_writeRows.2.1 22 = .ok (.istore_n 2, 1) := by decide +kernel
theorem dRef_writeRows_23 : decode mRef_writeRows.2.1 23 = .ok (.iload_n 2, 1) := by decide +kernel
theorem dRef_writeRows_24 : decode mRef_writeRows.2.1 24 = .ok (.iload_n 1, 1) := by decide +kernel
theorem dRef_writeRows_25 : decode mRef_writeRows.2.1 25 = .ok (.if_icmp .ge 55, 3) := by decide +kernel
theorem dRef_writeRows_28 : decode mRef_writeRows.2.1 28 = .ok (.aload_n 0, 1) := by decide +kernel
theorem dRef_writeRows_29 : decode mRef_writeRows.2.1 29 = .ok (.ldc 178, 2) := by decide +kernel
theorem dRef_writeRows_31 : decode mRef_writeRows.2.1 31 = .ok (.invokevirtual 167, 3) := by decide +kernel
theorem dRef_writeRows_34 : decode mRef_writeRows.2.1 34 = .ok (.istore_n 3, 1) := by decide +kernel
theorem dRef_writeRows_35 : decode mRef_writeRows.2.1 35 = .ok (.iload_n 2, 1) := by decide +kernel
theorem dRef_writeRows_36 : decode mRef_writeRows.2.1 36 = .ok (.istore 4, 2) := by decide +kernel
theorem dRef_writeRows_38 : decode mRef_writeRows.2.1 38 = .ok (.iload 4, 2) := by decide +kernel
theorem dRef_writeRows_40 : decode mRef_writeRows.2.1 40 = .ok (.iload_n 1, 1) := by decide +kernel
theorem dRef_writeRows_41 : decode mRef_writeRows.2.1 41 = .ok (.if_icmp .ge 28, 3) := by decide +kernel
theorem dRef_writeRows_44 : decode mRef_writeRows.2.1 44 = .ok (.iload 4, 2) := by decide +kernel
theorem dRef_writeRows_46 : decode mRef_writeRows.2.1 46 = .ok (.iload_n 2, 1) := by decide +kernel
theorem dRef_writeRows_47 : decode mRef_writeRows.2.1 47 = .ok (.bipush 60, 2) := by decide +kernel
theorem dRef_writeRows_49 : decode mRef_writeRows.2.1 49 = .ok (.iadd, 1) := by decide +kernel
theorem dRef_writeRows_50 : decode mRef_writeRows.2.1 50 = .ok (.if_icmp .ge 19, 3) := by decide +kernel
theorem dRef_writeRows_53 : decode mRef_writeRows.2.1 53 = .ok (.aload_n 0, 1) := by decide +kernel
theorem dRef_writeRows_54 : decode mRef_writeRows.2.1 54 = .ok (.aload_n 0, 1) := by decide +kernel
theorem dRef_writeRows_55 : decode mRef_writeRows.2.1 55 = .ok (.iload 4, 2) := by decide +kernel
theorem dRef_writeRows_57 : decode mRef_writeRows.2.1 57 = .ok (.invokevirtual 179, 3) := by decide +kernel
theorem dRef_writeRows_60 : decode mRef_writeRows.2.1 60 = .ok (.invokevirtual 150, 3) := by decide +kernel
theorem dRef_writeRows_63 : decode mRef_writeRows.2.1 63 = .ok (.iinc 4 1, 3) := by decide +kernel
theorem dRef_writeRows_66 : decode mRef_writeRows.2.1 66 = .ok (.goto (-28), 3) := by decide +kernel
theorem dRef_writeRows_69 : decode mRef_writeRows.2.1 69 = .ok (.aload_n 0, 1) := by decide +kernel
theorem dRef_writeRows_70 : decode mRef_writeRows.2.1 70 = .ok (.iload_n 3, 1) := by decide +kernel
theorem dRef_writeRows_71 : decode mRef_writeRows.2.1 71 = .ok (.invokevirtual 170, 3) := by decide +kernel
theorem dRef_writeRows_74 : decode mRef_writeRows.2.1 74 = .ok (.iinc 2 60, 3) := by decide +kernel
theorem dRef_writeRows_77 : decode mRef_writeRows.2.1 77 = .ok (.goto (-54), 3) := by decide +kernel
theorem dRef_writeRows_80 : decode mRef_writeRows.2.1 80 = .ok (.return_, 1) := by decide +kernel
theorem dRef_mark_0 : decode mRef_mark.2.1 0 = .ok (.iload_n 0, 1) := by decide +kernel
theorem dRef_mark_1 : decode mRef_mark.2.1 1 = .ok (.tableswitch 62 0 6 #[43, 47, 50, 53, 56, 62, 59], 43) := by decide +kernel
theorem dRef_mark_44 : decode mRef_mark.2.1 44 = .ok (.sipush 137, 3) := by decide +kernel
theorem dRef_mark_47 : decode mRef_mark.2.1 47 = .ok (.ireturn, 1) := by decide +kernel
theorem dRef_mark_48 : decode mRef_mark.2.1 48 = .ok (.bipush 80, 2) := by decide +kernel
theorem dRef_mark_50 : decode mRef_mark.2.1 50 = .ok (.ireturn, 1) := by decide +kernel
theorem dRef_mark_51 : decode mRef_mark.2.1 51 = .ok (.bipush 78, 2) := by decide +kernel
theorem dRef_mark_53 : decode mRef_mark.2.1 53 = .ok (.ireturn, 1) := by decide +kernel
theorem dRef_mark_54 : decode mRef_mark.2.1 54 = .ok (.bipush 71, 2) := by decide +kernel
theorem dRef_mark_56 : decode mRef_mark.2.1 56 = .ok (.ireturn, 1) := by decide +kernel
theorem dRef_mark_57 : decode mRef_mark.2.1 57 = .ok (.bipush 13, 2) := by decide +kernel
theorem dRef_mark_59 : decode mRef_mark.2.1 59 = .ok (.ireturn, 1) := by decide +kernel
theorem dRef_mark_60 : decode mRef_mark.2.1 60 = .ok (.bipush 26, 2) := by decide +kernel
theorem dRef_mark_62 : decode mRef_mark.2.1 62 = .ok (.ireturn, 1) := by decide +kernel
theorem dRef_mark_63 : decode mRef_mark.2.1 63 = .ok (.bipush 10, 2) := by decide +kernel
theorem dRef_mark_65 : decode mRef_mark.2.1 65 = .ok (.ireturn, 1) := by decide +kernel
theorem dRef_write_0 : decode mRef_write.2.1 0 = .ok (.aload_n 0, 1) := by decide +kernel
theorem dRef_write_1 : decode mRef_write.2.1 1 = .ok (.aload_n 0, 1) := by decide +kernel
theorem dRef_write_2 : decode mRef_write.2.1 2 = .ok (.getfield 67, 3) := by decide +kernel
theorem dRef_write_5 : decode mRef_write.2.1 5 = .ok (.ifCond .eq 18, 3) := by decide +kernel
theorem dRef_write_8 : decode mRef_write.2.1 8 = .ok (.aload_n 0, 1) := by decide +kernel
theorem dRef_write_9 : decode mRef_write.2.1 9 = .ok (.getfield 80, 3) := by decide +kernel
theorem dRef_write_12 : decode mRef_write.2.1 12 = .ok (.iconst 3, 1) := by decide +kernel
theorem dRef_write_13 : decode mRef_write.2.1 13 = .ok (.if_icmp .ne 14, 3) := by decide +kernel
theorem dRef_write_16 : decode mRef_write.2.1 16 = .ok (.aload_n 0, 1) := by decide +kernel
theorem dRef_write_17 : decode mRef_write.2.1 17 = .ok (.getfield 83, 3) := by decide +kernel
theorem dRef_write_20 : decode mRef_write.2.1 20 = .ok (.ifCond .ne 7, 3) := by decide +kernel
theorem dRef_write_23 : decode mRef_write.2.1 23 = .ok (.iconst 1, 1) := by decide +kernel
theorem dRef_write_24 : decode mRef_write.2.1 24 = .ok (.goto 4, 3) := by decide +kernel
theorem dRef_write_27 : decode mRef_write.2.1 27 = .ok (.iconst 0, 1) := by decide +kernel
theorem dRef_write_28 : decode mRef_write.2.1 28 = .ok (.putfield 59, 3) := by decide +kernel
theorem dRef_write_31 : decode mRef_write.2.1 31 = .ok (.aload_n 0, 1) := by decide +kernel
theorem dRef_write_32 : decode mRef_write.2.1 32 = .ok (.getfield 59, 3) := by decide +kernel
theorem dRef_write_35 : decode mRef_write.2.1 35 = .ok (.ifCond .le 5, 3) := by decide +kernel
theorem dRef_write_38 : decode mRef_write.2.1 38 = .ok (.iconst 0, 1) := by decide +kernel
theorem dRef_write_39 : decode mRef_write.2.1 39 = .ok (.ireturn, 1) := by decide +kernel
theorem dRef_write_40 : decode mRef_write.2.1 40 = .ok (.aload_n 0, 1) := by decide +kernel
theorem dRef_write_41 : decode mRef_write.2.1 41 = .ok (.iconst 0, 1) := by decide +kernel
theorem dRef_write_42 : decode mRef_write.2.1 42 = .ok (.putfield 147, 3) := by decide +kernel
theorem dRef_write_45 : decode mRef_write.2.1 45 = .ok (.iconst 0, 1) := by decide +kernel
theorem dRef_write_46 : decode mRef_write.2.1 46 = .ok (.istore_n 1, 1) := by decide +kernel
theorem dRef_write_47 : decode mRef_write.2.1 47 = .ok (.iload_n 1, 1) := by decide +kernel
theorem dRef_write_48 : decode mRef_write.2.1 48 = .ok (.bipush 8, 2) := by decide +kernel
theorem dRef_write_50 : decode mRef_write.2.1 50 = .ok (.if_icmp .ge 17, 3) := by decide +kernel
theorem dRef_write_53 : decode mRef_write.2.1 53 = .ok (.aload_n 0, 1) := by decide +kernel
theorem dRef_write_54 : decode mRef_write.2.1 54 = .ok (.iload_n 1, 1) := by decide +kernel
theorem dRef_write_55 : decode mRef_write.2.1 55 = .ok (.invokestatic 182, 3) := by decide +kernel
theorem dRef_write_58 : decode mRef_write.2.1 58 = .ok (.invokevirtual 150, 3) := by decide +kernel
theorem dRef_write_61 : decode mRef_write.2.1 61 = .ok (.iinc 1 1, 3) := by decide +kernel
theorem dRef_write_64 : decode mRef_write.2.1 64 = .ok (.goto (-17), 3) := by decide +kernel
theorem dRef_write_67 : decode mRef_write.2.1 67 = .ok (.aload_n 0, 1) := by decide +kernel
theorem dRef_write_68 : decode mRef_write.2.1 68 = .ok (.ldc 185, 2) := by decide +kernel
theorem dRef_write_70 : decode mRef_write.2.1 70 = .ok (.invokevirtual 167, 3) := by decide +kernel
theorem dRef_write_73 : decode mRef_write.2.1 73 = .ok (.istore_n 1, 1) := by decide +kernel
theorem dRef_write_74 : decode mRef_write.2.1 74 = .ok (.aload_n 0, 1) := by decide +kernel
theorem dRef_write_75 : decode mRef_write.2.1 75 = .ok (.aload_n 0, 1) := by decide +kernel
theorem dRef_write_76 : decode mRef_write.2.1 76 = .ok (.getfield 71, 3) := by decide +kernel
theorem dRef_write_79 : decode mRef_write.2.1 79 = .ok (.invokevirtual 164, 3) := by decide +kernel
theorem dRef_write_82 : decode mRef_write.2.1 82 = .ok (.aload_n 0, 1) := by decide +kernel
theorem dRef_write_83 : decode mRef_write.2.1 83 = .ok (.aload_n 0, 1) := by decide +kernel
theorem dRef_write_84 : decode mRef_write.2.1 84 = .ok (.getfield 74, 3) := by decide +kernel
theorem dRef_write_87 : decode mRef_write.2.1 87 = .ok (.invokevirtual 164, 3) := by decide +kernel
theorem dRef_write_90 : decode mRef_write.2.1 90 = .ok (.aload_n 0, 1) := by decide +kernel
theorem dRef_write_91 : decode mRef_write.2.1 91 = .ok (.aload_n 0, 1) := by decide +kernel
theorem dRef_write_92 : decode mRef_write.2.1 92 = .ok (.getfield 77, 3) := by decide +kernel
theorem dRef_write_95 : decode mRef_write.2.1 95 = .ok (.invokevirtual 150, 3) := by decide +kernel
theorem dRef_write_98 : decode mRef_write.2.1 98 = .ok (.aload_n 0, 1) := by decide +kernel
theorem dRef_write_99 : decode mRef_write.2.1 99 = .ok (.aload_n 0, 1) := by decide +kernel
theorem dRef_write_100 : decode mRef_write.2.1 100 = .ok (.getfield 80, 3) := by decide +kernel
theorem dRef_write_103 : decode mRef_write.2.1 103 = .ok (.invokevirtual 150, 3) := by decide +kernel
theorem dRef_write_106 : decode mRef_write.2.1 106 = .ok (.iconst 0, 1) := by decide +kernel
theorem dRef_write_107 : decode mRef_write.2.1 107 = .ok (.istore_n 2, 1) := by decide +kernel
theorem dRef_write_108 : decode mRef_write.2.1 108 = .ok (.iload_n 2, 1) := by decide +kernel
theorem dRef_write_109 : decode mRef_write.2.1 109 = .ok (.iconst 3, 1) := by decide +kernel
theorem dRef_write_110 : decode mRef_write.2.1 110 = .ok (.if_icmp .ge 14, 3) := by decide +kernel
theorem dRef_write_113 : decode mRef_write.2.1 113 = .ok (.aload_n 0, 1) := by decide +kernel
theorem dRef_write_114 : decode mRef_write.2.1 114 = .ok (.iconst 0, 1) := by decide +kernel
theorem dRef_write_115 : decode mRef_write.2.1 115 = .ok (.invokevirtual 150, 3) := by decide +kernel
theorem dRef_write_118 : decode mRef_write.2.1 118 = .ok (.iinc 2 1, 3) := by decide +kernel
theorem dRef_write_121 : decode mRef_write.2.1 121 = .ok (.goto (-13), 3) := by decide +kernel
theorem dRef_write_124 : decode mRef_write.2.1 124 = .ok (.aload_n 0, 1) := by decide +kernel
theorem dRef_write_125 : decode mRef_write.2.1 125 = .ok (.iload_n 1, 1) := by decide +kernel
theorem dRef_write_126 : decode mRef_write.2.1 126 = .ok (.invokevirtual 170, 3) := by decide +kernel
theorem dRef_write_129 : decode mRef_write.2.1 129 = .ok (.aload_n 0, 1) := by decide +kernel
theorem dRef_write_130 : decode mRef_write.2.1 130 = .ok (.invokevirtual 186, 3) := by decide +kernel
theorem dRef_write_133 : decode mRef_write.2.1 133 = .ok (.aload_n 0, 1) := by decide +kernel
theorem dRef_write_134 : decode mRef_write.2.1 134 = .ok (.getfield 80, 3) := by decide +kernel
theorem dRef_write_137 : decode mRef_write.2.1 137 = .ok (.iconst 3, 1) := by decide +kernel
theorem dRef_write_138 : decode mRef_write.2.1 138 = .ok (.if_icmp .ne 7, 3) := by decide +kernel
theorem dRef_write_141 : decode mRef_write.2.1 141 = .ok (.aload_n 0, 1) := by decide +kernel
theorem dRef_write_142 : decode mRef_write.2.1 142 = .ok (.invokevirtual 189, 3) := by decide +kernel
theorem dRef_write_145 : decode mRef_write.2.1 145 = .ok (.aload_n 0, 1) := by decide +kernel
theorem dRef_write_146 : decode mRef_write.2.1 146 = .ok (.invokevirtual 192, 3) := by decide +kernel
theorem dRef_write_149 : decode mRef_write.2.1 149 = .ok (.iconst 0, 1) := by decide +kernel
theorem dRef_write_150 : decode mRef_write.2.1 150 = .ok (.istore_n 2, 1) := by decide +kernel
theorem dRef_write_151 : decode mRef_write.2.1 151 = .ok (.iload_n 2, 1) := by decide +kernel
theorem dRef_write_152 : decode mRef_write.2.1 152 = .ok (.aload_n 0, 1) := by decide +kernel
theorem dRef_write_153 : decode mRef_write.2.1 153 = .ok (.getfield 86, 3) := by decide +kernel
theorem dRef_write_156 : decode mRef_write.2.1 156 = .ok (.if_icmp .ge 58, 3) := by decide +kernel
theorem dRef_write_159 : decode mRef_write.2.1 159 = .ok (.aload_n 0, 1) := by decide +kernel
theorem dRef_write_160 : decode mRef_write.2.1 160 = .ok (.aload_n 0, 1) := by decide +kernel
theorem dRef_write_161 : decode mRef_write.2.1 161 = .ok (.getfield 19, 3) := by decide +kernel
theorem dRef_write_164 : decode mRef_write.2.1 164 = .ok (.iload_n 2, 1) := by decide +kernel
theorem dRef_write_165 : decode mRef_write.2.1 165 = .ok (.iaload, 1) := by decide +kernel
theorem dRef_write_166 : decode mRef_write.2.1 166 = .ok (.invokevirtual 167, 3) := by decide +kernel
theorem dRef_write_169 : decode mRef_write.2.1 169 = .ok (.istore_n 1, 1) := by decide +kernel
theorem dRef_write_170 : decode mRef_write.2.1 170 = .ok (.iconst 0, 1) := by decide +kernel
theorem dRef_write_171 : decode mRef_write.2.1 171 = .ok (.istore_n 3, 1) := by decide +kernel
theorem dRef_write_172 : decode mRef_write.2.1 172 = .ok (.iload_n 3, 1) := by decide +kernel
theorem dRef_write_173 : decode mRef_write.2.1 173 = .ok (.aload_n 0, 1) := by decide +kernel
theorem dRef_write_174 : decode mRef_write.2.1 174 = .ok (.getfield 22, 3) := by decide +kernel
theorem dRef_write_177 : decode mRef_write.2.1 177 = .ok (.iload_n 2, 1) := by decide +kernel
theorem dRef_write_178 : decode mRef_write.2.1 178 = .ok (.iaload, 1) := by decide +kernel
theorem dRef_write_179 : decode mRef_write.2.1 179 = .ok (.if_icmp .ge 24, 3) := by decide +kernel
theorem dRef_write_182 : decode mRef_write.2.1 182 = .ok (.aload_n 0, 1) := by decide +kernel
theorem dRef_write_183 : decode mRef_write.2.1 183 = .ok (.aload_n 0, 1) := by decide +kernel
theorem dRef_write_184 : decode mRef_write.2.1 184 = .ok (.getfield 25, 3) := by decide +kernel
theorem dRef_write_187 : decode mRef_write.2.1 187 = .ok (.bipush 40, 2) := by decide +kernel
theorem dRef_write_189 : decode mRef_write.2.1 189 = .ok (.iload_n 2, 1) := by decide +kernel
theorem dRef_write_190 : decode mRef_write.2.1 190 = .ok (.imul, 1) := by decide +kernel
theorem dRef_write_191 : decode mRef_write.2.1 191 = .ok (.iload_n 3, 1) := by decide +kernel
theorem dRef_write_192 : decode mRef_write.2.1 192 = .ok (.iadd, 1) := by decide +kernel
theorem dRef_write_193 : decode mRef_write.2.1 193 = .ok (.iaload, 1) := by decide +kernel
theorem dRef_write_194 : decode mRef_write.2.1 194 = .ok (.invokevirtual 150, 3) := by decide +kernel
theorem dRef_write_197 : decode mRef_write.2.1 197 = .ok (.iinc 3 1, 3) := by decide +kernel
theorem dRef_write_200 : decode mRef_write.2.1 200 = .ok (.goto (-28), 3) := by decide +kernel
theorem dRef_write_203 : decode mRef_write.2.1 203 = .ok (.aload_n 0, 1) := by decide +kernel
theorem dRef_write_204 : decode mRef_write.2.1 204 = .ok (.iload_n 1, 1) := by decide +kernel
theorem dRef_write_205 : decode mRef_write.2.1 205 = .ok (.invokevirtual 170, 3) := by decide +kernel
theorem dRef_write_208 : decode mRef_write.2.1 208 = .ok (.iinc 2 1, 3) := by decide +kernel
theorem dRef_write_211 : decode mRef_write.2.1 211 = .ok (.goto (-60), 3) := by decide +kernel
theorem dRef_write_214 : decode mRef_write.2.1 214 = .ok (.aload_n 0, 1) := by decide +kernel
theorem dRef_write_215 : decode mRef_write.2.1 215 = .ok (.aload_n 0, 1) := by decide +kernel
theorem dRef_write_216 : decode mRef_write.2.1 216 = .ok (.ldc 195, 2) := by decide +kernel
theorem dRef_write_218 : decode mRef_write.2.1 218 = .ok (.invokevirtual 167, 3) := by decide +kernel
theorem dRef_write_221 : decode mRef_write.2.1 221 = .ok (.invokevirtual 170, 3) := by decide +kernel
theorem dRef_write_224 : decode mRef_write.2.1 224 = .ok (.aload_n 0, 1) := by decide +kernel
theorem dRef_write_225 : decode mRef_write.2.1 225 = .ok (.getfield 147, 3) := by decide +kernel
theorem dRef_write_228 : decode mRef_write.2.1 228 = .ok (.ireturn, 1) := by decide +kernel
theorem dRef_byteAt_0 : decode mRef_byteAt.2.1 0 = .ok (.aload_n 0, 1) := by decide +kernel
theorem dRef_byteAt_1 : decode mRef_byteAt.2.1 1 = .ok (.iload_n 1, 1) := by decide +kernel
theorem dRef_byteAt_2 : decode mRef_byteAt.2.1 2 = .ok (.ifCond .lt 11, 3) := by decide +kernel
theorem dRef_byteAt_5 : decode mRef_byteAt.2.1 5 = .ok (.iload_n 1, 1) := by decide +kernel
theorem dRef_byteAt_6 : decode mRef_byteAt.2.1 6 = .ok (.aload_n 0, 1) := by decide +kernel
theorem dRef_byteAt_7 : decode mRef_byteAt.2.1 7 = .ok (.getfield 147, 3) := by decide +kernel
theorem dRef_byteAt_10 : decode mRef_byteAt.2.1 10 = .ok (.if_icmp .lt 7, 3) := by decide +kernel
theorem dRef_byteAt_13 : decode mRef_byteAt.2.1 13 = .ok (.iconst 1, 1) := by decide +kernel
theorem dRef_byteAt_14 : decode mRef_byteAt.2.1 14 = .ok (.goto 4, 3) := by decide +kernel
theorem dRef_byteAt_17 : decode mRef_byteAt.2.1 17 = .ok (.iconst 0, 1) := by decide +kernel
theorem dRef_byteAt_18 : decode mRef_byteAt.2.1 18 = .ok (.putfield 59, 3) := by decide +kernel
theorem dRef_byteAt_21 : decode mRef_byteAt.2.1 21 = .ok (.aload_n 0, 1) := by decide +kernel
theorem dRef_byteAt_22 : decode mRef_byteAt.2.1 22 = .ok (.getfield 59, 3) := by decide +kernel
theorem dRef_byteAt_25 : decode mRef_byteAt.2.1 25 = .ok (.ifCond .le 7, 3) := by decide +kernel
theorem dRef_byteAt_28 : decode mRef_byteAt.2.1 28 = .ok (.iconst 0, 1) := by decide +kernel
theorem dRef_byteAt_29 : decode mRef_byteAt.2.1 29 = .ok (.goto 9, 3) := by decide +kernel
theorem dRef_byteAt_32 : decode mRef_byteAt.2.1 32 = .ok (.aload_n 0, 1) := by decide +kernel
theorem dRef_byteAt_33 : decode mRef_byteAt.2.1 33 = .ok (.getfield 46, 3) := by decide +kernel
theorem dRef_byteAt_36 : decode mRef_byteAt.2.1 36 = .ok (.iload_n 1, 1) := by decide +kernel
theorem dRef_byteAt_37 : decode mRef_byteAt.2.1 37 = .ok (.iaload, 1) := by decide +kernel
theorem dRef_byteAt_38 : decode mRef_byteAt.2.1 38 = .ok (.ireturn, 1) := by decide +kernel
theorem dRef_feed_0 : decode mRef_feed.2.1 0 = .ok (.aload_n 0, 1) := by decide +kernel
theorem dRef_feed_1 : decode mRef_feed.2.1 1 = .ok (.iload_n 1, 1) := by decide +kernel
theorem dRef_feed_2 : decode mRef_feed.2.1 2 = .ok (.invokestatic 89, 3) := by decide +kernel
theorem dRef_feed_5 : decode mRef_feed.2.1 5 = .ok (.ifCond .ne 7, 3) := by decide +kernel
theorem dRef_feed_8 : decode mRef_feed.2.1 8 = .ok (.iconst 1, 1) := by decide +kernel
theorem dRef_feed_9 : decode mRef_feed.2.1 9 = .ok (.goto 18, 3) := by decide +kernel
theorem dRef_feed_12 : decode mRef_feed.2.1 12 = .ok (.aload_n 0, 1) := by decide +kernel
theorem dRef_feed_13 : decode mRef_feed.2.1 13 = .ok (.getfield 196, 3) := by decide +kernel
theorem dRef_feed_16 : decode mRef_feed.2.1 16 = .ok (.sipush 2000, 3) := by decide +kernel
theorem dRef_feed_19 : decode mRef_feed.2.1 19 = .ok (.if_icmp .ne 7, 3) := by decide +kernel
theorem dRef_feed_22 : decode mRef_feed.2.1 22 = .ok (.iconst 2, 1) := by decide +kernel
theorem dRef_feed_23 : decode mRef_feed.2.1 23 = .ok (.goto 4, 3) := by decide +kernel
theorem dRef_feed_26 : decode mRef_feed.2.1 26 = .ok (.iconst 0, 1) := by decide +kernel
theorem dRef_feed_27 : decode mRef_feed.2.1 27 = .ok (.putfield 59, 3) := by decide +kernel
theorem dRef_feed_30 : decode mRef_feed.2.1 30 = .ok (.aload_n 0, 1) := by decide +kernel
theorem dRef_feed_31 : decode mRef_feed.2.1 31 = .ok (.getfield 59, 3) := by decide +kernel
theorem dRef_feed_34 : decode mRef_feed.2.1 34 = .ok (.ifCond .le 5, 3) := by decide +kernel
theorem dRef_feed_37 : decode mRef_feed.2.1 37 = .ok (.iconst 0, 1) := by decide +kernel
theorem dRef_feed_38 : decode mRef_feed.2.1 38 = .ok (.ireturn, 1) := by decide +kernel
theorem dRef_feed_39 : decode mRef_feed.2.1 39 = .ok (.aload_n 0, 1) := by decide +kernel
theorem dRef_feed_40 : decode mRef_feed.2.1 40 = .ok (.getfield 49, 3) := by decide +kernel
theorem dRef_feed_43 : decode mRef_feed.2.1 43 = .ok (.aload_n 0, 1) := by decide +kernel
theorem dRef_feed_44 : decode mRef_feed.2.1 44 = .ok (.getfield 196, 3) := by decide +kernel
theorem dRef_feed_47 : decode mRef_feed.2.1 47 = .ok (.iload_n 1, 1) := by decide +kernel
theorem dRef_feed_48 : decode mRef_feed.2.1 48 = .ok (.iastore, 1) := by decide +kernel
theorem dRef_feed_49 : decode mRef_feed.2.1 49 = .ok (.aload_n 0, 1) := by decide +kernel
theorem dRef_feed_50 : decode mRef_feed.2.1 50 = .ok (.dup, 1) := by decide +kernel
theorem dRef_feed_51 : decode mRef_feed.2.1 51 = .ok (.getfield 196, 3) := by decide +kernel
theorem dRef_feed_54 : decode mRef_feed.2.1 54 = .ok (.iconst 1, 1) := by decide +kernel
theorem dRef_feed_55 : decode mRef_feed.2.1 55 = .ok (.iadd, 1) := by decide +kernel
theorem dRef_feed_56 : decode mRef_feed.2.1 56 = .ok (.putfield 196, 3) := by decide +kernel
theorem dRef_feed_59 : decode mRef_feed.2.1 59 = .ok (.aload_n 0, 1) := by decide +kernel
theorem dRef_feed_60 : decode mRef_feed.2.1 60 = .ok (.getfield 196, 3) := by decide +kernel
theorem dRef_feed_63 : decode mRef_feed.2.1 63 = .ok (.ireturn, 1) := by decide +kernel
theorem dRef_pass_0 : decode mRef_pass.2.1 0 = .ok (.aload_n 0, 1) := by decide +kernel
theorem dRef_pass_1 : decode mRef_pass.2.1 1 = .ok (.iload_n 1, 1) := by decide +kernel
theorem dRef_pass_2 : decode mRef_pass.2.1 2 = .ok (.ifCond .lt 11, 3) := by decide +kernel
theorem dRef_pass_5 : decode mRef_pass.2.1 5 = .ok (.iload_n 1, 1) := by decide +kernel
theorem dRef_pass_6 : decode mRef_pass.2.1 6 = .ok (.aload_n 0, 1) := by decide +kernel
theorem dRef_pass_7 : decode mRef_pass.2.1 7 = .ok (.getfield 147, 3) := by decide +kernel
theorem dRef_pass_10 : decode mRef_pass.2.1 10 = .ok (.if_icmp .lt 7, 3) := by decide +kernel
theorem dRef_pass_13 : decode mRef_pass.2.1 13 = .ok (.iconst 1, 1) := by decide +kernel
theorem dRef_pass_14 : decode mRef_pass.2.1 14 = .ok (.goto 12, 3) := by decide +kernel
theorem dRef_pass_17 : decode mRef_pass.2.1 17 = .ok (.iload_n 2, 1) := by decide +kernel
theorem dRef_pass_18 : decode mRef_pass.2.1 18 = .ok (.ifCond .ge 7, 3) := by decide +kernel
theorem dRef_pass_21 : decode mRef_pass.2.1 21 = .ok (.iconst 2, 1) := by decide +kernel
theorem dRef_pass_22 : decode mRef_pass.2.1 22 = .ok (.goto 4, 3) := by decide +kernel
theorem dRef_pass_25 : decode mRef_pass.2.1 25 = .ok (.iconst 0, 1) := by decide +kernel
theorem dRef_pass_26 : decode mRef_pass.2.1 26 = .ok (.putfield 59, 3) := by decide +kernel
theorem dRef_pass_29 : decode mRef_pass.2.1 29 = .ok (.aload_n 0, 1) := by decide +kernel
theorem dRef_pass_30 : decode mRef_pass.2.1 30 = .ok (.getfield 59, 3) := by decide +kernel
theorem dRef_pass_33 : decode mRef_pass.2.1 33 = .ok (.ifCond .le 7, 3) := by decide +kernel
theorem dRef_pass_36 : decode mRef_pass.2.1 36 = .ok (.iconst 0, 1) := by decide +kernel
theorem dRef_pass_37 : decode mRef_pass.2.1 37 = .ok (.goto 23, 3) := by decide +kernel
theorem dRef_pass_40 : decode mRef_pass.2.1 40 = .ok (.iload_n 2, 1) := by decide +kernel
theorem dRef_pass_41 : decode mRef_pass.2.1 41 = .ok (.aload_n 0, 1) := by decide +kernel
theorem dRef_pass_42 : decode mRef_pass.2.1 42 = .ok (.getfield 147, 3) := by decide +kernel
theorem dRef_pass_45 : decode mRef_pass.2.1 45 = .ok (.iload_n 1, 1) := by decide +kernel
theorem dRef_pass_46 : decode mRef_pass.2.1 46 = .ok (.isub, 1) := by decide +kernel
theorem dRef_pass_47 : decode mRef_pass.2.1 47 = .ok (.if_icmp .ge 7, 3) := by decide +kernel
theorem dRef_pass_50 : decode mRef_pass.2.1 50 = .ok (.iload_n 2, 1) := by decide +kernel
theorem dRef_pass_51 : decode mRef_pass.2.1 51 = .ok (.goto 9, 3) := by decide +kernel
theorem dRef_pass_54 : decode mRef_pass.2.1 54 = .ok (.aload_n 0, 1) := by decide +kernel
theorem dRef_pass_55 : decode mRef_pass.2.1 55 = .ok (.getfield 147, 3) := by decide +kernel
theorem dRef_pass_58 : decode mRef_pass.2.1 58 = .ok (.iload_n 1, 1) := by decide +kernel
theorem dRef_pass_59 : decode mRef_pass.2.1 59 = .ok (.isub, 1) := by decide +kernel
theorem dRef_pass_60 : decode mRef_pass.2.1 60 = .ok (.istore_n 3, 1) := by decide +kernel
theorem dRef_pass_61 : decode mRef_pass.2.1 61 = .ok (.aload_n 0, 1) := by decide +kernel
theorem dRef_pass_62 : decode mRef_pass.2.1 62 = .ok (.aload_n 0, 1) := by decide +kernel
theorem dRef_pass_63 : decode mRef_pass.2.1 63 = .ok (.getfield 59, 3) := by decide +kernel
theorem dRef_pass_66 : decode mRef_pass.2.1 66 = .ok (.ifCond .ne 19, 3) := by decide +kernel
theorem dRef_pass_69 : decode mRef_pass.2.1 69 = .ok (.aload_n 0, 1) := by decide +kernel
theorem dRef_pass_70 : decode mRef_pass.2.1 70 = .ok (.getfield 196, 3) := by decide +kernel
theorem dRef_pass_73 : decode mRef_pass.2.1 73 = .ok (.iload_n 3, 1) := by decide +kernel
theorem dRef_pass_74 : decode mRef_pass.2.1 74 = .ok (.iadd, 1) := by decide +kernel
theorem dRef_pass_75 : decode mRef_pass.2.1 75 = .ok (.sipush 2000, 3) := by decide +kernel
theorem dRef_pass_78 : decode mRef_pass.2.1 78 = .ok (.if_icmp .le 7, 3) := by decide +kernel
theorem dRef_pass_81 : decode mRef_pass.2.1 81 = .ok (.iconst 3, 1) := by decide +kernel
theorem dRef_pass_82 : decode mRef_pass.2.1 82 = .ok (.goto 7, 3) := by decide +kernel
theorem dRef_pass_85 : decode mRef_pass.2.1 85 = .ok (.aload_n 0, 1) := by decide +kernel
theorem dRef_pass_86 : decode mRef_pass.2.1 86 = .ok (.getfield 59, 3) := by decide +kernel
theorem dRef_pass_89 : decode mRef_pass.2.1 89 = .ok (.putfield 59, 3) := by decide +kernel
theorem dRef_pass_92 : decode mRef_pass.2.1 92 = .ok (.iconst 0, 1) := by decide +kernel
theorem dRef_pass_93 : decode mRef_pass.2.1 93 = .ok (.istore 4, 2) := by decide +kernel
theorem dRef_pass_95 : decode mRef_pass.2.1 95 = .ok (.iload 4, 2) := by decide +kernel
theorem dRef_pass_97 : decode mRef_pass.2.1 97 = .ok (.iload_n 3, 1) := by decide +kernel
theorem dRef_pass_98 : decode mRef_pass.2.1 98 = .ok (.if_icmp .ge 44, 3) := by decide +kernel
theorem dRef_pass_101 : decode mRef_pass.2.1 101 = .ok (.aload_n 0, 1) := by decide +kernel
theorem dRef_pass_102 : decode mRef_pass.2.1 102 = .ok (.getfield 59, 3) := by decide +kernel
theorem dRef_pass_105 : decode mRef_pass.2.1 105 = .ok (.ifCond .ne 37, 3) := by decide +kernel
theorem dRef_pass_108 : decode mRef_pass.2.1 108 = .ok (.aload_n 0, 1) := by decide +kernel
theorem dRef_pass_109 : decode mRef_pass.2.1 109 = .ok (.getfield 49, 3) := by decide +kernel
theorem dRef_pass_112 : decode mRef_pass.2.1 112 = .ok (.aload_n 0, 1) := by decide +kernel
theorem dRef_pass_113 : decode mRef_pass.2.1 113 = .ok (.getfield 196, 3) := by decide +kernel
theorem dRef_pass_116 : decode mRef_pass.2.1 116 = .ok (.aload_n 0, 1) := by decide +kernel
theorem dRef_pass_117 : decode mRef_pass.2.1 117 = .ok (.getfield 46, 3) := by decide +kernel
theorem dRef_pass_120 : decode mRef_pass.2.1 120 = .ok (.iload_n 1, 1) := by decide +kernel
theorem dRef_pass_121 : decode mRef_pass.2.1 121 = .ok (.iload 4, 2) := by decide +kernel
theorem dRef_pass_123 : decode mRef_pass.2.1 123 = .ok (.iadd, 1) := by decide +kernel
theorem dRef_pass_124 : decode mRef_pass.2.1 124 = .ok (.iaload, 1) := by decide +kernel
theorem dRef_pass_125 : decode mRef_pass.2.1 125 = .ok (.iastore, 1) := by decide +kernel
theorem dRef_pass_126 : decode mRef_pass.2.1 126 = .ok (.aload_n 0, 1) := by decide +kernel
theorem dRef_pass_127 : decode mRef_pass.2.1 127 = .ok (.dup, 1) := by decide +kernel
theorem dRef_pass_128 : decode mRef_pass.2.1 128 = .ok (.getfield 196, 3) := by decide +kernel
theorem dRef_pass_131 : decode mRef_pass.2.1 131 = .ok (.iconst 1, 1) := by decide +kernel
theorem dRef_pass_132 : decode mRef_pass.2.1 132 = .ok (.iadd, 1) := by decide +kernel
theorem dRef_pass_133 : decode mRef_pass.2.1 133 = .ok (.putfield 196, 3) := by decide +kernel
theorem dRef_pass_136 : decode mRef_pass.2.1 136 = .ok (.iinc 4 1, 3) := by decide +kernel
theorem dRef_pass_139 : decode mRef_pass.2.1 139 = .ok (.goto (-44), 3) := by decide +kernel
theorem dRef_pass_142 : decode mRef_pass.2.1 142 = .ok (.aload_n 0, 1) := by decide +kernel
theorem dRef_pass_143 : decode mRef_pass.2.1 143 = .ok (.getfield 59, 3) := by decide +kernel
theorem dRef_pass_146 : decode mRef_pass.2.1 146 = .ok (.ifCond .le 7, 3) := by decide +kernel
theorem dRef_pass_149 : decode mRef_pass.2.1 149 = .ok (.iconst 0, 1) := by decide +kernel
theorem dRef_pass_150 : decode mRef_pass.2.1 150 = .ok (.goto 4, 3) := by decide +kernel
theorem dRef_pass_153 : decode mRef_pass.2.1 153 = .ok (.iload_n 3, 1) := by decide +kernel
theorem dRef_pass_154 : decode mRef_pass.2.1 154 = .ok (.ireturn, 1) := by decide +kernel
theorem dRef_four_0 : decode mRef_four.2.1 0 = .ok (.aload_n 0, 1) := by decide +kernel
theorem dRef_four_1 : decode mRef_four.2.1 1 = .ok (.iload_n 1, 1) := by decide +kernel
theorem dRef_four_2 : decode mRef_four.2.1 2 = .ok (.iaload, 1) := by decide +kernel
theorem dRef_four_3 : decode mRef_four.2.1 3 = .ok (.bipush 24, 2) := by decide +kernel
theorem dRef_four_5 : decode mRef_four.2.1 5 = .ok (.ishl, 1) := by decide +kernel
theorem dRef_four_6 : decode mRef_four.2.1 6 = .ok (.aload_n 0, 1) := by decide +kernel
theorem dRef_four_7 : decode mRef_four.2.1 7 = .ok (.iload_n 1, 1) := by decide +kernel
theorem dRef_four_8 : decode mRef_four.2.1 8 = .ok (.iconst 1, 1) := by decide +kernel
theorem dRef_four_9 : decode mRef_four.2.1 9 = .ok (.iadd, 1) := by decide +kernel
theorem dRef_four_10 : decode mRef_four.2.1 10 = .ok (.iaload, 1) := by decide +kernel
theorem dRef_four_11 : decode mRef_four.2.1 11 = .ok (.bipush 16, 2) := by decide +kernel
theorem dRef_four_13 : decode mRef_four.2.1 13 = .ok (.ishl, 1) := by decide +kernel
theorem dRef_four_14 : decode mRef_four.2.1 14 = .ok (.ior, 1) := by decide +kernel
theorem dRef_four_15 : decode mRef_four.2.1 15 = .ok (.aload_n 0, 1) := by decide +kernel
theorem dRef_four_16 : decode mRef_four.2.1 16 = .ok (.iload_n 1, 1) := by decide +kernel
theorem dRef_four_17 : decode mRef_four.2.1 17 = .ok (.iconst 2, 1) := by decide +kernel
theorem dRef_four_18 : decode mRef_four.2.1 18 = .ok (.iadd, 1) := by decide +kernel
theorem dRef_four_19 : decode mRef_four.2.1 19 = .ok (.iaload, 1) := by decide +kernel
theorem dRef_four_20 : decode mRef_four.2.1 20 = .ok (.bipush 8, 2) := by decide +kernel
theorem dRef_four_22 : decode mRef_four.2.1 22 = .ok (.ishl, 1) := by decide +kernel
theorem dRef_four_23 : decode mRef_four.2.1 23 = .ok (.ior, 1) := by decide +kernel
theorem dRef_four_24 : decode mRef_four.2.1 24 = .ok (.aload_n 0, 1) := by decide +kernel
theorem dRef_four_25 : decode mRef_four.2.1 25 = .ok (.iload_n 1, 1) := by decide +kernel
theorem dRef_four_26 : decode mRef_four.2.1 26 = .ok (.iconst 3, 1) := by decide +kernel
theorem dRef_four_27 : decode mRef_four.2.1 27 = .ok (.iadd, 1) := by decide +kernel
theorem dRef_four_28 : decode mRef_four.2.1 28 = .ok (.iaload, 1) := by decide +kernel
theorem dRef_four_29 : decode mRef_four.2.1 29 = .ok (.ior, 1) := by decide +kernel
theorem dRef_four_30 : decode mRef_four.2.1 30 = .ok (.ireturn, 1) := by decide +kernel
theorem dRef_endOf_0 : decode mRef_endOf.2.1 0 = .ok (.aload_n 0, 1) := by decide +kernel
theorem dRef_endOf_1 : decode mRef_endOf.2.1 1 = .ok (.getfield 196, 3) := by decide +kernel
theorem dRef_endOf_4 : decode mRef_endOf.2.1 4 = .ok (.iload_n 1, 1) := by decide +kernel
theorem dRef_endOf_5 : decode mRef_endOf.2.1 5 = .ok (.isub, 1) := by decide +kernel
theorem dRef_endOf_6 : decode mRef_endOf.2.1 6 = .ok (.bipush 12, 2) := by decide +kernel
theorem dRef_endOf_8 : decode mRef_endOf.2.1 8 = .ok (.if_icmp .ge 5, 3) := by decide +kernel
theorem dRef_endOf_11 : decode mRef_endOf.2.1 11 = .ok (.iconst (-1), 1) := by decide +kernel
theorem dRef_endOf_12 : decode mRef_endOf.2.1 12 = .ok (.ireturn, 1) := by decide +kernel
theorem dRef_endOf_13 : decode mRef_endOf.2.1 13 = .ok (.aload_n 0, 1) := by decide +kernel
theorem dRef_endOf_14 : decode mRef_endOf.2.1 14 = .ok (.getfield 49, 3) := by decide +kernel
theorem dRef_endOf_17 : decode mRef_endOf.2.1 17 = .ok (.iload_n 1, 1) := by decide +kernel
theorem dRef_endOf_18 : decode mRef_endOf.2.1 18 = .ok (.invokestatic 199, 3) := by decide +kernel
theorem dRef_endOf_21 : decode mRef_endOf.2.1 21 = .ok (.istore_n 2, 1) := by decide +kernel
theorem dRef_endOf_22 : decode mRef_endOf.2.1 22 = .ok (.iload_n 2, 1) := by decide +kernel
theorem dRef_endOf_23 : decode mRef_endOf.2.1 23 = .ok (.ifCond .lt 23, 3) := by decide +kernel
theorem dRef_endOf_26 : decode mRef_endOf.2.1 26 = .ok (.iload_n 2, 1) := by decide +kernel
theorem dRef_endOf_27 : decode mRef_endOf.2.1 27 = .ok (.sipush 255, 3) := by decide +kernel
theorem dRef_endOf_30 : decode mRef_endOf.2.1 30 = .ok (.if_icmp .gt 16, 3) := by decide +kernel
theorem dRef_endOf_33 : decode mRef_endOf.2.1 33 = .ok (.aload_n 0, 1) := by decide +kernel
theorem dRef_endOf_34 : decode mRef_endOf.2.1 34 = .ok (.getfield 196, 3) := by decide +kernel
theorem dRef_endOf_37 : decode mRef_endOf.2.1 37 = .ok (.iload_n 1, 1) := by decide +kernel
theorem dRef_endOf_38 : decode mRef_endOf.2.1 38 = .ok (.isub, 1) := by decide +kernel
theorem dRef_endOf_39 : decode mRef_endOf.2.1 39 = .ok (.bipush 12, 2) := by decide +kernel
theorem dRef_endOf_41 : decode mRef_endOf.2.1 41 = .ok (.iload_n 2, 1) := by decide +kernel
theorem dRef_endOf_42 : decode mRef_endOf.2.1 42 = .ok (.iadd, 1) := by decide +kernel
theorem dRef_endOf_43 : decode mRef_endOf.2.1 43 = .ok (.if_icmp .ge 7, 3) := by decide +kernel
theorem dRef_endOf_46 : decode mRef_endOf.2.1 46 = .ok (.iconst (-1), 1) := by decide +kernel
theorem dRef_endOf_47 : decode mRef_endOf.2.1 47 = .ok (.goto 9, 3) := by decide +kernel
theorem dRef_endOf_50 : decode mRef_endOf.2.1 50 = .ok (.iload_n 1, 1) := by decide +kernel
theorem dRef_endOf_51 : decode mRef_endOf.2.1 51 = .ok (.bipush 12, 2) := by decide +kernel
theorem dRef_endOf_53 : decode mRef_endOf.2.1 53 = .ok (.iadd, 1) := by decide +kernel
theorem dRef_endOf_54 : decode mRef_endOf.2.1 54 = .ok (.iload_n 2, 1) := by decide +kernel
theorem dRef_endOf_55 : decode mRef_endOf.2.1 55 = .ok (.iadd, 1) := by decide +kernel
theorem dRef_endOf_56 : decode mRef_endOf.2.1 56 = .ok (.ireturn, 1) := by decide +kernel
theorem dRef_alter_0 : decode mRef_alter.2.1 0 = .ok (.aload_n 0, 1) := by decide +kernel
theorem dRef_alter_1 : decode mRef_alter.2.1 1 = .ok (.iload_n 1, 1) := by decide +kernel
theorem dRef_alter_2 : decode mRef_alter.2.1 2 = .ok (.ifCond .lt 11, 3) := by decide +kernel
theorem dRef_alter_5 : decode mRef_alter.2.1 5 = .ok (.iload_n 1, 1) := by decide +kernel
theorem dRef_alter_6 : decode mRef_alter.2.1 6 = .ok (.aload_n 0, 1) := by decide +kernel
theorem dRef_alter_7 : decode mRef_alter.2.1 7 = .ok (.getfield 196, 3) := by decide +kernel
theorem dRef_alter_10 : decode mRef_alter.2.1 10 = .ok (.if_icmp .lt 7, 3) := by decide +kernel
theorem dRef_alter_13 : decode mRef_alter.2.1 13 = .ok (.iconst 1, 1) := by decide +kernel
theorem dRef_alter_14 : decode mRef_alter.2.1 14 = .ok (.goto 15, 3) := by decide +kernel
theorem dRef_alter_17 : decode mRef_alter.2.1 17 = .ok (.iload_n 2, 1) := by decide +kernel
theorem dRef_alter_18 : decode mRef_alter.2.1 18 = .ok (.invokestatic 89, 3) := by decide +kernel
theorem dRef_alter_21 : decode mRef_alter.2.1 21 = .ok (.ifCond .ne 7, 3) := by decide +kernel
theorem dRef_alter_24 : decode mRef_alter.2.1 24 = .ok (.iconst 2, 1) := by decide +kernel
theorem dRef_alter_25 : decode mRef_alter.2.1 25 = .ok (.goto 4, 3) := by decide +kernel
theorem dRef_alter_28 : decode mRef_alter.2.1 28 = .ok (.iconst 0, 1) := by decide +kernel
theorem dRef_alter_29 : decode mRef_alter.2.1 29 = .ok (.putfield 59, 3) := by decide +kernel
theorem dRef_alter_32 : decode mRef_alter.2.1 32 = .ok (.aload_n 0, 1) := by decide +kernel
theorem dRef_alter_33 : decode mRef_alter.2.1 33 = .ok (.getfield 59, 3) := by decide +kernel
theorem dRef_alter_36 : decode mRef_alter.2.1 36 = .ok (.ifCond .le 5, 3) := by decide +kernel
theorem dRef_alter_39 : decode mRef_alter.2.1 39 = .ok (.iconst 0, 1) := by decide +kernel
theorem dRef_alter_40 : decode mRef_alter.2.1 40 = .ok (.ireturn, 1) := by decide +kernel
theorem dRef_alter_41 : decode mRef_alter.2.1 41 = .ok (.aload_n 0, 1) := by decide +kernel
theorem dRef_alter_42 : decode mRef_alter.2.1 42 = .ok (.getfield 49, 3) := by decide +kernel
theorem dRef_alter_45 : decode mRef_alter.2.1 45 = .ok (.iload_n 1, 1) := by decide +kernel
theorem dRef_alter_46 : decode mRef_alter.2.1 46 = .ok (.iaload, 1) := by decide +kernel
theorem dRef_alter_47 : decode mRef_alter.2.1 47 = .ok (.istore 4, 2) := by decide +kernel
theorem dRef_alter_49 : decode mRef_alter.2.1 49 = .ok (.aload_n 0, 1) := by decide +kernel
theorem dRef_alter_50 : decode mRef_alter.2.1 50 = .ok (.getfield 49, 3) := by decide +kernel
theorem dRef_alter_53 : decode mRef_alter.2.1 53 = .ok (.iload_n 1, 1) := by decide +kernel
theorem dRef_alter_54 : decode mRef_alter.2.1 54 = .ok (.iload_n 2, 1) := by decide +kernel
theorem dRef_alter_55 : decode mRef_alter.2.1 55 = .ok (.iastore, 1) := by decide +kernel
theorem dRef_alter_56 : decode mRef_alter.2.1 56 = .ok (.bipush 8, 2) := by decide +kernel
theorem dRef_alter_58 : decode mRef_alter.2.1 58 = .ok (.istore 5, 2) := by decide +kernel
theorem dRef_alter_60 : decode mRef_alter.2.1 60 = .ok (.iload_n 1, 1) := by decide +kernel
theorem dRef_alter_61 : decode mRef_alter.2.1 61 = .ok (.bipush 8, 2) := by decide +kernel
theorem dRef_alter_63 : decode mRef_alter.2.1 63 = .ok (.if_icmp .lt 7, 3) := by decide +kernel
theorem dRef_alter_66 : decode mRef_alter.2.1 66 = .ok (.iload_n 3, 1) := by decide +kernel
theorem dRef_alter_67 : decode mRef_alter.2.1 67 = .ok (.ifCond .ne 7, 3) := by decide +kernel
theorem dRef_alter_70 : decode mRef_alter.2.1 70 = .ok (.iconst (-1), 1) := by decide +kernel
theorem dRef_alter_71 : decode mRef_alter.2.1 71 = .ok (.goto 9, 3) := by decide +kernel
theorem dRef_alter_74 : decode mRef_alter.2.1 74 = .ok (.aload_n 0, 1) := by decide +kernel
theorem dRef_alter_75 : decode mRef_alter.2.1 75 = .ok (.iload 5, 2) := by decide +kernel
theorem dRef_alter_77 : decode mRef_alter.2.1 77 = .ok (.invokevirtual 203, 3) := by decide +kernel
theorem dRef_alter_80 : decode mRef_alter.2.1 80 = .ok (.istore 6, 2) := by decide +kernel
theorem dRef_alter_82 : decode mRef_alter.2.1 82 = .ok (.iload 6, 2) := by decide +kernel
theorem dRef_alter_84 : decode mRef_alter.2.1 84 = .ok (.iconst (-1), 1) := by decide +kernel
theorem dRef_alter_85 : decode mRef_alter.2.1 85 = .ok (.if_icmp .eq 24, 3) := by decide +kernel
theorem dRef_alter_88 : decode mRef_alter.2.1 88 = .ok (.iload 6, 2) := by decide +kernel
theorem dRef_alter_90 : decode mRef_alter.2.1 90 = .ok (.iload_n 1, 1) := by decide +kernel
theorem dRef_alter_91 : decode mRef_alter.2.1 91 = .ok (.if_icmp .gt 18, 3) := by decide +kernel
theorem dRef_alter_94 : decode mRef_alter.2.1 94 = .ok (.iload 6, 2) := by decide +kernel
theorem dRef_alter_96 : decode mRef_alter.2.1 96 = .ok (.istore 5, 2) := by decide +kernel
theorem dRef_alter_98 : decode mRef_alter.2.1 98 = .ok (.aload_n 0, 1) := by decide +kernel
theorem dRef_alter_99 : decode mRef_alter.2.1 99 = .ok (.iload 5, 2) := by decide +kernel
theorem dRef_alter_101 : decode mRef_alter.2.1 101 = .ok (.invokevirtual 203, 3) := by decide +kernel
theorem dRef_alter_104 : decode mRef_alter.2.1 104 = .ok (.istore 6, 2) := by decide +kernel
theorem dRef_alter_106 : decode mRef_alter.2.1 106 = .ok (.goto (-24), 3) := by decide +kernel
theorem dRef_alter_109 : decode mRef_alter.2.1 109 = .ok (.iload 6, 2) := by decide +kernel
theorem dRef_alter_111 : decode mRef_alter.2.1 111 = .ok (.iconst (-1), 1) := by decide +kernel
theorem dRef_alter_112 : decode mRef_alter.2.1 112 = .ok (.if_icmp .eq 62, 3) := by decide +kernel
theorem dRef_alter_115 : decode mRef_alter.2.1 115 = .ok (.aload_n 0, 1) := by decide +kernel
theorem dRef_alter_116 : decode mRef_alter.2.1 116 = .ok (.getfield 49, 3) := by decide +kernel
theorem dRef_alter_119 : decode mRef_alter.2.1 119 = .ok (.iload 5, 2) := by decide +kernel
theorem dRef_alter_121 : decode mRef_alter.2.1 121 = .ok (.iconst 4, 1) := by decide +kernel
theorem dRef_alter_122 : decode mRef_alter.2.1 122 = .ok (.iadd, 1) := by decide +kernel
theorem dRef_alter_123 : decode mRef_alter.2.1 123 = .ok (.iload 6, 2) := by decide +kernel
theorem dRef_alter_125 : decode mRef_alter.2.1 125 = .ok (.iconst 4, 1) := by decide +kernel
theorem dRef_alter_126 : decode mRef_alter.2.1 126 = .ok (.isub, 1) := by decide +kernel
theorem dRef_alter_127 : decode mRef_alter.2.1 127 = .ok (.invokestatic 160, 3) := by decide +kernel
theorem dRef_alter_130 : decode mRef_alter.2.1 130 = .ok (.istore 7, 2) := by decide +kernel
theorem dRef_alter_132 : decode mRef_alter.2.1 132 = .ok (.iconst 0, 1) := by decide +kernel
theorem dRef_alter_133 : decode mRef_alter.2.1 133 = .ok (.istore 8, 2) := by decide +kernel
theorem dRef_alter_135 : decode mRef_alter.2.1 135 = .ok (.iload 8, 2) := by decide +kernel
theorem dRef_alter_137 : decode mRef_alter.2.1 137 = .ok (.iconst 4, 1) := by decide +kernel
theorem dRef_alter_138 : decode mRef_alter.2.1 138 = .ok (.if_icmp .ge 36, 3) := by decide +kernel
theorem dRef_alter_141 : decode mRef_alter.2.1 141 = .ok (.aload_n 0, 1) := by decide +kernel
theorem dRef_alter_142 : decode mRef_alter.2.1 142 = .ok (.getfield 49, 3) := by decide +kernel
theorem dRef_alter_145 : decode mRef_alter.2.1 145 = .ok (.iload 6, 2) := by decide +kernel
theorem dRef_alter_147 : decode mRef_alter.2.1 147 = .ok (.iconst 4, 1) := by decide +kernel
theorem dRef_alter_148 : decode mRef_alter.2.1 148 = .ok (.isub, 1) := by decide +kernel
theorem dRef_alter_149 : decode mRef_alter.2.1 149 = .ok (.iload 8, 2) := by decide +kernel
theorem dRef_alter_151 : decode mRef_alter.2.1 151 = .ok (.iadd, 1) := by decide +kernel
theorem dRef_alter_152 : decode mRef_alter.2.1 152 = .ok (.iload 7, 2) := by decide +kernel
theorem dRef_alter_154 : decode mRef_alter.2.1 154 = .ok (.bipush 24, 2) := by decide +kernel
theorem dRef_alter_156 : decode mRef_alter.2.1 156 = .ok (.bipush 8, 2) := by decide +kernel
theorem dRef_alter_158 : decode mRef_alter.2.1 158 = .ok (.iload 8, 2) := by decide +kernel
theorem dRef_alter_160 : decode mRef_alter.2.1 160 = .ok (.imul, 1) := by decide +kernel
theorem dRef_alter_161 : decode mRef_alter.2.1 161 = .ok (.isub, 1) := by decide +kernel
theorem dRef_alter_162 : decode mRef_alter.2.1 162 = .ok (.ishr, 1) := by decide +kernel
theorem dRef_alter_163 : decode mRef_alter.2.1 163 = .ok (.sipush 255, 3) := by decide +kernel
theorem dRef_alter_166 : decode mRef_alter.2.1 166 = .ok (.iand, 1) := by decide +kernel
theorem dRef_alter_167 : decode mRef_alter.2.1 167 = .ok (.iastore, 1) := by decide +kernel
theorem dRef_alter_168 : decode mRef_alter.2.1 168 = .ok (.iinc 8 1, 3) := by decide +kernel
theorem dRef_alter_171 : decode mRef_alter.2.1 171 = .ok (.goto (-36), 3) := by decide +kernel
theorem dRef_alter_174 : decode mRef_alter.2.1 174 = .ok (.iload 4, 2) := by decide +kernel
theorem dRef_alter_176 : decode mRef_alter.2.1 176 = .ok (.ireturn, 1) := by decide +kernel
theorem dRef_breakBy_0 : decode mRef_breakBy.2.1 0 = .ok (.iload_n 1, 1) := by decide +kernel
theorem dRef_breakBy_1 : decode mRef_breakBy.2.1 1 = .ok (.ifCond .eq 20, 3) := by decide +kernel
theorem dRef_breakBy_4 : decode mRef_breakBy.2.1 4 = .ok (.aload_n 0, 1) := by decide +kernel
theorem dRef_breakBy_5 : decode mRef_breakBy.2.1 5 = .ok (.getfield 206, 3) := by decide +kernel
theorem dRef_breakBy_8 : decode mRef_breakBy.2.1 8 = .ok (.ifCond .ne 13, 3) := by decide +kernel
theorem dRef_breakBy_11 : decode mRef_breakBy.2.1 11 = .ok (.aload_n 0, 1) := by decide +kernel
theorem dRef_breakBy_12 : decode mRef_breakBy.2.1 12 = .ok (.iload_n 2, 1) := by decide +kernel
theorem dRef_breakBy_13 : decode mRef_breakBy.2.1 13 = .ok (.putfield 206, 3) := by decide +kernel
theorem dRef_breakBy_16 : decode mRef_breakBy.2.1 16 = .ok (.aload_n 0, 1) := by decide +kernel
theorem dRef_breakBy_17 : decode mRef_breakBy.2.1 17 = .ok (.iload_n 3, 1) := by decide +kernel
theorem dRef_breakBy_18 : decode mRef_breakBy.2.1 18 = .ok (.putfield 209, 3) := by decide +kernel
theorem dRef_breakBy_21 : decode mRef_breakBy.2.1 21 = .ok (.return_, 1) := by decide +kernel
theorem dRef_tagOf_0 : decode mRef_tagOf.2.1 0 = .ok (.iload_n 0, 1) := by decide +kernel
theorem dRef_tagOf_1 : decode mRef_tagOf.2.1 1 = .ok (.ldc 124, 2) := by decide +kernel
theorem dRef_tagOf_3 : decode mRef_tagOf.2.1 3 = .ok (.if_icmp .ne 7, 3) := by decide +kernel
theorem dRef_tagOf_6 : decode mRef_tagOf.2.1 6 = .ok (.iconst 0, 1) := by decide +kernel
theorem dRef_tagOf_7 : decode mRef_tagOf.2.1 7 = .ok (.goto 24, 3) := by decide +kernel
theorem dRef_tagOf_10 : decode mRef_tagOf.2.1 10 = .ok (.iload_n 0, 1) := by decide +kernel
theorem dRef_tagOf_11 : decode mRef_tagOf.2.1 11 = .ok (.ldc 125, 2) := by decide +kernel
theorem dRef_tagOf_13 : decode mRef_tagOf.2.1 13 = .ok (.if_icmp .ne 7, 3) := by decide +kernel
theorem dRef_tagOf_16 : decode mRef_tagOf.2.1 16 = .ok (.iconst 1, 1) := by decide +kernel
theorem dRef_tagOf_17 : decode mRef_tagOf.2.1 17 = .ok (.goto 14, 3) := by decide +kernel
theorem dRef_tagOf_20 : decode mRef_tagOf.2.1 20 = .ok (.iload_n 0, 1) := by decide +kernel
theorem dRef_tagOf_21 : decode mRef_tagOf.2.1 21 = .ok (.ldc 126, 2) := by decide +kernel
theorem dRef_tagOf_23 : decode mRef_tagOf.2.1 23 = .ok (.if_icmp .ne 7, 3) := by decide +kernel
theorem dRef_tagOf_26 : decode mRef_tagOf.2.1 26 = .ok (.iconst 2, 1) := by decide +kernel
theorem dRef_tagOf_27 : decode mRef_tagOf.2.1 27 = .ok (.goto 4, 3) := by decide +kernel
theorem dRef_tagOf_30 : decode mRef_tagOf.2.1 30 = .ok (.iconst (-1), 1) := by decide +kernel
theorem dRef_tagOf_31 : decode mRef_tagOf.2.1 31 = .ok (.ireturn, 1) := by decide +kernel
theorem dRef_isOutOfOrder_0 : decode mRef_isOutOfOrder.2.1 0 = .ok (.aload_n 0, 1) := by decide +kernel
theorem dRef_isOutOfOrder_1 : decode mRef_isOutOfOrder.2.1 1 = .ok (.getfield 212, 3) := by decide +kernel
theorem dRef_isOutOfOrder_4 : decode mRef_isOutOfOrder.2.1 4 = .ok (.ifCond .eq 9, 3) := by decide +kernel
theorem dRef_isOutOfOrder_7 : decode mRef_isOutOfOrder.2.1 7 = .ok (.iload_n 1, 1) := by decide +kernel
theorem dRef_isOutOfOrder_8 : decode mRef_isOutOfOrder.2.1 8 = .ok (.ldc 185, 2) := by decide +kernel
theorem dRef_isOutOfOrder_10 : decode mRef_isOutOfOrder.2.1 10 = .ok (.if_icmp .ne 22, 3) := by decide +kernel
theorem dRef_isOutOfOrder_13 : decode mRef_isOutOfOrder.2.1 13 = .ok (.aload_n 0, 1) := by decide +kernel
theorem dRef_isOutOfOrder_14 : decode mRef_isOutOfOrder.2.1 14 = .ok (.getfield 212, 3) := by decide +kernel
theorem dRef_isOutOfOrder_17 : decode mRef_isOutOfOrder.2.1 17 = .ok (.ifCond .ne 9, 3) := by decide +kernel
theorem dRef_isOutOfOrder_20 : decode mRef_isOutOfOrder.2.1 20 = .ok (.iload_n 1, 1) := by decide +kernel
theorem dRef_isOutOfOrder_21 : decode mRef_isOutOfOrder.2.1 21 = .ok (.ldc 185, 2) := by decide +kernel
theorem dRef_isOutOfOrder_23 : decode mRef_isOutOfOrder.2.1 23 = .ok (.if_icmp .eq 7, 3) := by decide +kernel
theorem dRef_isOutOfOrder_26 : decode mRef_isOutOfOrder.2.1 26 = .ok (.iconst 1, 1) := by decide +kernel
theorem dRef_isOutOfOrder_27 : decode mRef_isOutOfOrder.2.1 27 = .ok (.goto 4, 3) := by decide +kernel
theorem dRef_isOutOfOrder_30 : decode mRef_isOutOfOrder.2.1 30 = .ok (.iconst 0, 1) := by decide +kernel
theorem dRef_isOutOfOrder_31 : decode mRef_isOutOfOrder.2.1 31 = .ok (.ireturn, 1) := by decide +kernel
theorem dRef_isOutOfOrder_32 : decode mRef_isOutOfOrder.2.1 32 = .ok (.iload_n 1, 1) := by decide +kernel
theorem dRef_isOutOfOrder_33 : decode mRef_isOutOfOrder.2.1 33 = .ok (.invokestatic 215, 3) := by decide +kernel
theorem dRef_isOutOfOrder_36 : decode mRef_isOutOfOrder.2.1 36 = .ok (.istore_n 2, 1) := by decide +kernel
theorem dRef_isOutOfOrder_37 : decode mRef_isOutOfOrder.2.1 37 = .ok (.iload_n 2, 1) := by decide +kernel
theorem dRef_isOutOfOrder_38 : decode mRef_isOutOfOrder.2.1 38 = .ok (.iconst (-1), 1) := by decide +kernel
theorem dRef_isOutOfOrder_39 : decode mRef_isOutOfOrder.2.1 39 = .ok (.if_icmp .eq 37, 3) := by decide +kernel
theorem dRef_isOutOfOrder_42 : decode mRef_isOutOfOrder.2.1 42 = .ok (.aload_n 0, 1) := by decide +kernel
theorem dRef_isOutOfOrder_43 : decode mRef_isOutOfOrder.2.1 43 = .ok (.getfield 218, 3) := by decide +kernel
theorem dRef_isOutOfOrder_46 : decode mRef_isOutOfOrder.2.1 46 = .ok (.ifCond .ne 24, 3) := by decide +kernel
theorem dRef_isOutOfOrder_49 : decode mRef_isOutOfOrder.2.1 49 = .ok (.aload_n 0, 1) := by decide +kernel
theorem dRef_isOutOfOrder_50 : decode mRef_isOutOfOrder.2.1 50 = .ok (.getfield 55, 3) := by decide +kernel
theorem dRef_isOutOfOrder_53 : decode mRef_isOutOfOrder.2.1 53 = .ok (.iload_n 2, 1) := by decide +kernel
theorem dRef_isOutOfOrder_54 : decode mRef_isOutOfOrder.2.1 54 = .ok (.baload, 1) := by decide +kernel
theorem dRef_isOutOfOrder_55 : decode mRef_isOutOfOrder.2.1 55 = .ok (.ifCond .ne 15, 3) := by decide +kernel
theorem dRef_isOutOfOrder_58 : decode mRef_isOutOfOrder.2.1 58 = .ok (.iload_n 2, 1) := by decide +kernel
theorem dRef_isOutOfOrder_59 : decode mRef_isOutOfOrder.2.1 59 = .ok (.iconst 2, 1) := by decide +kernel
theorem dRef_isOutOfOrder_60 : decode mRef_isOutOfOrder.2.1 60 = .ok (.if_icmp .ge 14, 3) := by decide +kernel
theorem dRef_isOutOfOrder_63 : decode mRef_isOutOfOrder.2.1 63 = .ok (.aload_n 0, 1) := by decide +kernel
theorem dRef_isOutOfOrder_64 : decode mRef_isOutOfOrder.2.1 64 = .ok (.getfield 221, 3) := by decide +kernel
theorem dRef_isOutOfOrder_67 : decode mRef_isOutOfOrder.2.1 67 = .ok (.ifCond .eq 7, 3) := by decide +kernel
theorem dRef_isOutOfOrder_70 : decode mRef_isOutOfOrder.2.1 70 = .ok (.iconst 1, 1) := by decide +kernel
theorem dRef_isOutOfOrder_71 : decode mRef_isOutOfOrder.2.1 71 = .ok (.goto 4, 3) := by decide +kernel
theorem dRef_isOutOfOrder_74 : decode mRef_isOutOfOrder.2.1 74 = .ok (.iconst 0, 1) := by decide +kernel
theorem dRef_isOutOfOrder_75 : decode mRef_isOutOfOrder.2.1 75 = .ok (.ireturn, 1) := by decide +kernel
theorem dRef_isOutOfOrder_76 : decode mRef_isOutOfOrder.2.1 76 = .ok (.iload_n 1, 1) := by decide +kernel
theorem dRef_isOutOfOrder_77 : decode mRef_isOutOfOrder.2.1 77 = .ok (.ldc 173, 2) := by decide +kernel
theorem dRef_isOutOfOrder_79 : decode mRef_isOutOfOrder.2.1 79 = .ok (.if_icmp .ne 38, 3) := by decide +kernel
theorem dRef_isOutOfOrder_82 : decode mRef_isOutOfOrder.2.1 82 = .ok (.aload_n 0, 1) := by decide +kernel
theorem dRef_isOutOfOrder_83 : decode mRef_isOutOfOrder.2.1 83 = .ok (.getfield 218, 3) := by decide +kernel
theorem dRef_isOutOfOrder_86 : decode mRef_isOutOfOrder.2.1 86 = .ok (.ifCond .ne 25, 3) := by decide +kernel
theorem dRef_isOutOfOrder_89 : decode mRef_isOutOfOrder.2.1 89 = .ok (.aload_n 0, 1) := by decide +kernel
theorem dRef_isOutOfOrder_90 : decode mRef_isOutOfOrder.2.1 90 = .ok (.getfield 221, 3) := by decide +kernel
theorem dRef_isOutOfOrder_93 : decode mRef_isOutOfOrder.2.1 93 = .ok (.ifCond .ne 18, 3) := by decide +kernel
theorem dRef_isOutOfOrder_96 : decode mRef_isOutOfOrder.2.1 96 = .ok (.aload_n 0, 1) := by decide +kernel
theorem dRef_isOutOfOrder_97 : decode mRef_isOutOfOrder.2.1 97 = .ok (.getfield 224, 3) := by decide +kernel
theorem dRef_isOutOfOrder_100 : decode mRef_isOutOfOrder.2.1 100 = .ok (.ifCond .eq 11, 3) := by decide +kernel
theorem dRef_isOutOfOrder_103 : decode mRef_isOutOfOrder.2.1 103 = .ok (.aload_n 0, 1) := by decide +kernel
theorem dRef_isOutOfOrder_104 : decode mRef_isOutOfOrder.2.1 104 = .ok (.getfield 224, 3) := by decide +kernel
theorem dRef_isOutOfOrder_107 : decode mRef_isOutOfOrder.2.1 107 = .ok (.iconst 4, 1) := by decide +kernel
theorem dRef_isOutOfOrder_108 : decode mRef_isOutOfOrder.2.1 108 = .ok (.if_icmp .ne 7, 3) := by decide +kernel
theorem dRef_isOutOfOrder_111 : decode mRef_isOutOfOrder.2.1 111 = .ok (.iconst 1, 1) := by decide +kernel
theorem dRef_isOutOfOrder_112 : decode mRef_isOutOfOrder.2.1 112 = .ok (.goto 4, 3) := by decide +kernel
theorem dRef_isOutOfOrder_115 : decode mRef_isOutOfOrder.2.1 115 = .ok (.iconst 0, 1) := by decide +kernel
theorem dRef_isOutOfOrder_116 : decode mRef_isOutOfOrder.2.1 116 = .ok (.ireturn, 1) := by decide +kernel
theorem dRef_isOutOfOrder_117 : decode mRef_isOutOfOrder.2.1 117 = .ok (.iload_n 1, 1) := by decide +kernel
theorem dRef_isOutOfOrder_118 : decode mRef_isOutOfOrder.2.1 118 = .ok (.ldc 127, 2) := by decide +kernel
theorem dRef_isOutOfOrder_120 : decode mRef_isOutOfOrder.2.1 120 = .ok (.if_icmp .ne 30, 3) := by decide +kernel
theorem dRef_isOutOfOrder_123 : decode mRef_isOutOfOrder.2.1 123 = .ok (.aload_n 0, 1) := by decide +kernel
theorem dRef_isOutOfOrder_124 : decode mRef_isOutOfOrder.2.1 124 = .ok (.getfield 218, 3) := by decide +kernel
theorem dRef_isOutOfOrder_127 : decode mRef_isOutOfOrder.2.1 127 = .ok (.ifCond .ne 17, 3) := by decide +kernel
theorem dRef_isOutOfOrder_130 : decode mRef_isOutOfOrder.2.1 130 = .ok (.aload_n 0, 1) := by decide +kernel
theorem dRef_isOutOfOrder_131 : decode mRef_isOutOfOrder.2.1 131 = .ok (.getfield 227, 3) := by decide +kernel
theorem dRef_isOutOfOrder_134 : decode mRef_isOutOfOrder.2.1 134 = .ok (.ifCond .ne 10, 3) := by decide +kernel
theorem dRef_isOutOfOrder_137 : decode mRef_isOutOfOrder.2.1 137 = .ok (.aload_n 0, 1) := by decide +kernel
theorem dRef_isOutOfOrder_138 : decode mRef_isOutOfOrder.2.1 138 = .ok (.getfield 221, 3) := by decide +kernel
theorem dRef_isOutOfOrder_141 : decode mRef_isOutOfOrder.2.1 141 = .ok (.ifCond .ne 7, 3) := by decide +kernel
theorem dRef_isOutOfOrder_144 : decode mRef_isOutOfOrder.2.1 144 = .ok (.iconst 1, 1) := by decide +kernel
theorem dRef_isOutOfOrder_145 : decode mRef_isOutOfOrder.2.1 145 = .ok (.goto 4, 3) := by decide +kernel
theorem dRef_isOutOfOrder_148 : decode mRef_isOutOfOrder.2.1 148 = .ok (.iconst 0, 1) := by decide +kernel
theorem dRef_isOutOfOrder_149 : decode mRef_isOutOfOrder.2.1 149 = .ok (.ireturn, 1) := by decide +kernel
theorem dRef_isOutOfOrder_150 : decode mRef_isOutOfOrder.2.1 150 = .ok (.iload_n 1, 1) := by decide +kernel
theorem dRef_isOutOfOrder_151 : decode mRef_isOutOfOrder.2.1 151 = .ok (.ldc 178, 2) := by decide +kernel
theorem dRef_isOutOfOrder_153 : decode mRef_isOutOfOrder.2.1 153 = .ok (.if_icmp .ne 31, 3) := by decide +kernel
theorem dRef_isOutOfOrder_156 : decode mRef_isOutOfOrder.2.1 156 = .ok (.aload_n 0, 1) := by decide +kernel
theorem dRef_isOutOfOrder_157 : decode mRef_isOutOfOrder.2.1 157 = .ok (.getfield 230, 3) := by decide +kernel
theorem dRef_isOutOfOrder_160 : decode mRef_isOutOfOrder.2.1 160 = .ok (.ifCond .ne 18, 3) := by decide +kernel
theorem dRef_isOutOfOrder_163 : decode mRef_isOutOfOrder.2.1 163 = .ok (.aload_n 0, 1) := by decide +kernel
theorem dRef_isOutOfOrder_164 : decode mRef_isOutOfOrder.2.1 164 = .ok (.getfield 224, 3) := by decide +kernel
theorem dRef_isOutOfOrder_167 : decode mRef_isOutOfOrder.2.1 167 = .ok (.iconst 3, 1) := by decide +kernel
theorem dRef_isOutOfOrder_168 : decode mRef_isOutOfOrder.2.1 168 = .ok (.if_icmp .ne 14, 3) := by decide +kernel
theorem dRef_isOutOfOrder_171 : decode mRef_isOutOfOrder.2.1 171 = .ok (.aload_n 0, 1) := by decide +kernel
theorem dRef_isOutOfOrder_172 : decode mRef_isOutOfOrder.2.1 172 = .ok (.getfield 221, 3) := by decide +kernel
theorem dRef_isOutOfOrder_175 : decode mRef_isOutOfOrder.2.1 175 = .ok (.ifCond .ne 7, 3) := by decide +kernel
theorem dRef_isOutOfOrder_178 : decode mRef_isOutOfOrder.2.1 178 = .ok (.iconst 1, 1) := by decide +kernel
theorem dRef_isOutOfOrder_179 : decode mRef_isOutOfOrder.2.1 179 = .ok (.goto 4, 3) := by decide +kernel
theorem dRef_isOutOfOrder_182 : decode mRef_isOutOfOrder.2.1 182 = .ok (.iconst 0, 1) := by decide +kernel
theorem dRef_isOutOfOrder_183 : decode mRef_isOutOfOrder.2.1 183 = .ok (.ireturn, 1) := by decide +kernel
theorem dRef_isOutOfOrder_184 : decode mRef_isOutOfOrder.2.1 184 = .ok (.iload_n 1, 1) := by decide +kernel
theorem dRef_isOutOfOrder_185 : decode mRef_isOutOfOrder.2.1 185 = .ok (.ldc 195, 2) := by decide +kernel
theorem dRef_isOutOfOrder_187 : decode mRef_isOutOfOrder.2.1 187 = .ok (.if_icmp .ne 14, 3) := by decide +kernel
theorem dRef_isOutOfOrder_190 : decode mRef_isOutOfOrder.2.1 190 = .ok (.aload_n 0, 1) := by decide +kernel
theorem dRef_isOutOfOrder_191 : decode mRef_isOutOfOrder.2.1 191 = .ok (.getfield 218, 3) := by decide +kernel
theorem dRef_isOutOfOrder_194 : decode mRef_isOutOfOrder.2.1 194 = .ok (.ifCond .ne 7, 3) := by decide +kernel
theorem dRef_isOutOfOrder_197 : decode mRef_isOutOfOrder.2.1 197 = .ok (.iconst 1, 1) := by decide +kernel
theorem dRef_isOutOfOrder_198 : decode mRef_isOutOfOrder.2.1 198 = .ok (.goto 4, 3) := by decide +kernel
theorem dRef_isOutOfOrder_201 : decode mRef_isOutOfOrder.2.1 201 = .ok (.iconst 0, 1) := by decide +kernel
theorem dRef_isOutOfOrder_202 : decode mRef_isOutOfOrder.2.1 202 = .ok (.ireturn, 1) := by decide +kernel
theorem dRef_takeHead_0 : decode mRef_takeHead.2.1 0 = .ok (.iload_n 2, 1) := by decide +kernel
theorem dRef_takeHead_1 : decode mRef_takeHead.2.1 1 = .ok (.bipush 13, 2) := by decide +kernel
theorem dRef_takeHead_3 : decode mRef_takeHead.2.1 3 = .ok (.if_icmp .ne 101, 3) := by decide +kernel
theorem dRef_takeHead_6 : decode mRef_takeHead.2.1 6 = .ok (.aload_n 0, 1) := by decide +kernel
theorem dRef_takeHead_7 : decode mRef_takeHead.2.1 7 = .ok (.getfield 49, 3) := by decide +kernel
theorem dRef_takeHead_10 : decode mRef_takeHead.2.1 10 = .ok (.iload_n 1, 1) := by decide +kernel
theorem dRef_takeHead_11 : decode mRef_takeHead.2.1 11 = .ok (.invokestatic 199, 3) := by decide +kernel
theorem dRef_takeHead_14 : decode mRef_takeHead.2.1 14 = .ok (.ifCond .lt 90, 3) := by decide +kernel
theorem dRef_takeHead_17 : decode mRef_takeHead.2.1 17 = .ok (.aload_n 0, 1) := by decide +kernel
theorem dRef_takeHead_18 : decode mRef_takeHead.2.1 18 = .ok (.getfield 49, 3) := by decide +kernel
theorem dRef_takeHead_21 : decode mRef_takeHead.2.1 21 = .ok (.iload_n 1, 1) := by decide +kernel
theorem dRef_takeHead_22 : decode mRef_takeHead.2.1 22 = .ok (.iconst 4, 1) := by decide +kernel
theorem dRef_takeHead_23 : decode mRef_takeHead.2.1 23 = .ok (.iadd, 1) := by decide +kernel
theorem dRef_takeHead_24 : decode mRef_takeHead.2.1 24 = .ok (.invokestatic 199, 3) := by decide +kernel
theorem dRef_takeHead_27 : decode mRef_takeHead.2.1 27 = .ok (.ifCond .lt 77, 3) := by decide +kernel
theorem dRef_takeHead_30 : decode mRef_takeHead.2.1 30 = .ok (.aload_n 0, 1) := by decide +kernel
theorem dRef_takeHead_31 : decode mRef_takeHead.2.1 31 = .ok (.getfield 49, 3) := by decide +kernel
theorem dRef_takeHead_34 : decode mRef_takeHead.2.1 34 = .ok (.iload_n 1, 1) := by decide +kernel
theorem dRef_takeHead_35 : decode mRef_takeHead.2.1 35 = .ok (.invokestatic 199, 3) := by decide +kernel
theorem dRef_takeHead_38 : decode mRef_takeHead.2.1 38 = .ok (.aload_n 0, 1) := by decide +kernel
theorem dRef_takeHead_39 : decode mRef_takeHead.2.1 39 = .ok (.getfield 49, 3) := by decide +kernel
theorem dRef_takeHead_42 : decode mRef_takeHead.2.1 42 = .ok (.iload_n 1, 1) := by decide +kernel
theorem dRef_takeHead_43 : decode mRef_takeHead.2.1 43 = .ok (.iconst 4, 1) := by decide +kernel
theorem dRef_takeHead_44 : decode mRef_takeHead.2.1 44 = .ok (.iadd, 1) := by decide +kernel
theorem dRef_takeHead_45 : decode mRef_takeHead.2.1 45 = .ok (.invokestatic 199, 3) := by decide +kernel
theorem dRef_takeHead_48 : decode mRef_takeHead.2.1 48 = .ok (.aload_n 0, 1) := by decide +kernel
theorem dRef_takeHead_49 : decode mRef_takeHead.2.1 49 = .ok (.getfield 49, 3) := by decide +kernel
theorem dRef_takeHead_52 : decode mRef_takeHead.2.1 52 = .ok (.iload_n 1, 1) := by decide +kernel
theorem dRef_takeHead_53 : decode mRef_takeHead.2.1 53 = .ok (.bipush 8, 2) := by decide +kernel
theorem dRef_takeHead_55 : decode mRef_takeHead.2.1 55 = .ok (.iadd, 1) := by decide +kernel
theorem dRef_takeHead_56 : decode mRef_takeHead.2.1 56 = .ok (.iaload, 1) := by decide +kernel
theorem dRef_takeHead_57 : decode mRef_takeHead.2.1 57 = .ok (.aload_n 0, 1) := by decide +kernel
theorem dRef_takeHead_58 : decode mRef_takeHead.2.1 58 = .ok (.getfield 49, 3) := by decide +kernel
theorem dRef_takeHead_61 : decode mRef_takeHead.2.1 61 = .ok (.iload_n 1, 1) := by decide +kernel
theorem dRef_takeHead_62 : decode mRef_takeHead.2.1 62 = .ok (.bipush 9, 2) := by decide +kernel
theorem dRef_takeHead_64 : decode mRef_takeHead.2.1 64 = .ok (.iadd, 1) := by decide +kernel
theorem dRef_takeHead_65 : decode mRef_takeHead.2.1 65 = .ok (.iaload, 1) := by decide +kernel
theorem dRef_takeHead_66 : decode mRef_takeHead.2.1 66 = .ok (.invokestatic 63, 3) := by decide +kernel
theorem dRef_takeHead_69 : decode mRef_takeHead.2.1 69 = .ok (.ifCond .eq 35, 3) := by decide +kernel
theorem dRef_takeHead_72 : decode mRef_takeHead.2.1 72 = .ok (.aload_n 0, 1) := by decide +kernel
theorem dRef_takeHead_73 : decode mRef_takeHead.2.1 73 = .ok (.getfield 49, 3) := by decide +kernel
theorem dRef_takeHead_76 : decode mRef_takeHead.2.1 76 = .ok (.iload_n 1, 1) := by decide +kernel
theorem dRef_takeHead_77 : decode mRef_takeHead.2.1 77 = .ok (.bipush 10, 2) := by decide +kernel
theorem dRef_takeHead_79 : decode mRef_takeHead.2.1 79 = .ok (.iadd, 1) := by decide +kernel
theorem dRef_takeHead_80 : decode mRef_takeHead.2.1 80 = .ok (.iaload, 1) := by decide +kernel
theorem dRef_takeHead_81 : decode mRef_takeHead.2.1 81 = .ok (.aload_n 0, 1) := by decide +kernel
theorem dRef_takeHead_82 : decode mRef_takeHead.2.1 82 = .ok (.getfield 49, 3) := by decide +kernel
theorem dRef_takeHead_85 : decode mRef_takeHead.2.1 85 = .ok (.iload_n 1, 1) := by decide +kernel
theorem dRef_takeHead_86 : decode mRef_takeHead.2.1 86 = .ok (.bipush 11, 2) := by decide +kernel
theorem dRef_takeHead_88 : decode mRef_takeHead.2.1 88 = .ok (.iadd, 1) := by decide +kernel
theorem dRef_takeHead_89 : decode mRef_takeHead.2.1 89 = .ok (.iaload, 1) := by decide +kernel
theorem dRef_takeHead_90 : decode mRef_takeHead.2.1 90 = .ok (.iadd, 1) := by decide +kernel
theorem dRef_takeHead_91 : decode mRef_takeHead.2.1 91 = .ok (.aload_n 0, 1) := by decide +kernel
theorem dRef_takeHead_92 : decode mRef_takeHead.2.1 92 = .ok (.getfield 49, 3) := by decide +kernel
theorem dRef_takeHead_95 : decode mRef_takeHead.2.1 95 = .ok (.iload_n 1, 1) := by decide +kernel
theorem dRef_takeHead_96 : decode mRef_takeHead.2.1 96 = .ok (.bipush 12, 2) := by decide +kernel
theorem dRef_takeHead_98 : decode mRef_takeHead.2.1 98 = .ok (.iadd, 1) := by decide +kernel
theorem dRef_takeHead_99 : decode mRef_takeHead.2.1 99 = .ok (.iaload, 1) := by decide +kernel
theorem dRef_takeHead_100 : decode mRef_takeHead.2.1 100 = .ok (.iadd, 1) := by decide +kernel
theorem dRef_takeHead_101 : decode mRef_takeHead.2.1 101 = .ok (.ifCond .le 5, 3) := by decide +kernel
theorem dRef_takeHead_104 : decode mRef_takeHead.2.1 104 = .ok (.iconst 0, 1) := by decide +kernel
theorem dRef_takeHead_105 : decode mRef_takeHead.2.1 105 = .ok (.ireturn, 1) := by decide +kernel
theorem dRef_takeHead_106 : decode mRef_takeHead.2.1 106 = .ok (.aload_n 0, 1) := by decide +kernel
theorem dRef_takeHead_107 : decode mRef_takeHead.2.1 107 = .ok (.iconst 1, 1) := by decide +kernel
theorem dRef_takeHead_108 : decode mRef_takeHead.2.1 108 = .ok (.putfield 212, 3) := by decide +kernel
theorem dRef_takeHead_111 : decode mRef_takeHead.2.1 111 = .ok (.aload_n 0, 1) := by decide +kernel
theorem dRef_takeHead_112 : decode mRef_takeHead.2.1 112 = .ok (.aload_n 0, 1) := by decide +kernel
theorem dRef_takeHead_113 : decode mRef_takeHead.2.1 113 = .ok (.getfield 49, 3) := by decide +kernel
theorem dRef_takeHead_116 : decode mRef_takeHead.2.1 116 = .ok (.iload_n 1, 1) := by decide +kernel
theorem dRef_takeHead_117 : decode mRef_takeHead.2.1 117 = .ok (.invokestatic 199, 3) := by decide +kernel
theorem dRef_takeHead_120 : decode mRef_takeHead.2.1 120 = .ok (.putfield 233, 3) := by decide +kernel
theorem dRef_takeHead_123 : decode mRef_takeHead.2.1 123 = .ok (.aload_n 0, 1) := by decide +kernel
theorem dRef_takeHead_124 : decode mRef_takeHead.2.1 124 = .ok (.aload_n 0, 1) := by decide +kernel
theorem dRef_takeHead_125 : decode mRef_takeHead.2.1 125 = .ok (.getfield 49, 3) := by decide +kernel
theorem dRef_takeHead_128 : decode mRef_takeHead.2.1 128 = .ok (.iload_n 1, 1) := by decide +kernel
theorem dRef_takeHead_129 : decode mRef_takeHead.2.1 129 = .ok (.iconst 4, 1) := by decide +kernel
theorem dRef_takeHead_130 : decode mRef_takeHead.2.1 130 = .ok (.iadd, 1) := by decide +kernel
theorem dRef_takeHead_131 : decode mRef_takeHead.2.1 131 = .ok (.invokestatic 199, 3) := by decide +kernel
theorem dRef_takeHead_134 : decode mRef_takeHead.2.1 134 = .ok (.putfield 236, 3) := by decide +kernel
theorem dRef_takeHead_137 : decode mRef_takeHead.2.1 137 = .ok (.aload_n 0, 1) := by decide +kernel
theorem dRef_takeHead_138 : decode mRef_takeHead.2.1 138 = .ok (.aload_n 0, 1) := by decide +kernel
theorem dRef_takeHead_139 : decode mRef_takeHead.2.1 139 = .ok (.getfield 49, 3) := by decide +kernel
theorem dRef_takeHead_142 : decode mRef_takeHead.2.1 142 = .ok (.iload_n 1, 1) := by decide +kernel
theorem dRef_takeHead_143 : decode mRef_takeHead.2.1 143 = .ok (.bipush 8, 2) := by decide +kernel
theorem dRef_takeHead_145 : decode mRef_takeHead.2.1 145 = .ok (.iadd, 1) := by decide +kernel
theorem dRef_takeHead_146 : decode mRef_takeHead.2.1 146 = .ok (.iaload, 1) := by decide +kernel
theorem dRef_takeHead_147 : decode mRef_takeHead.2.1 147 = .ok (.putfield 239, 3) := by decide +kernel
theorem dRef_takeHead_150 : decode mRef_takeHead.2.1 150 = .ok (.aload_n 0, 1) := by decide +kernel
theorem dRef_takeHead_151 : decode mRef_takeHead.2.1 151 = .ok (.aload_n 0, 1) := by decide +kernel
theorem dRef_takeHead_152 : decode mRef_takeHead.2.1 152 = .ok (.getfield 49, 3) := by decide +kernel
theorem dRef_takeHead_155 : decode mRef_takeHead.2.1 155 = .ok (.iload_n 1, 1) := by decide +kernel
theorem dRef_takeHead_156 : decode mRef_takeHead.2.1 156 = .ok (.bipush 9, 2) := by decide +kernel
theorem dRef_takeHead_158 : decode mRef_takeHead.2.1 158 = .ok (.iadd, 1) := by decide +kernel
theorem dRef_takeHead_159 : decode mRef_takeHead.2.1 159 = .ok (.iaload, 1) := by decide +kernel
theorem dRef_takeHead_160 : decode mRef_takeHead.2.1 160 = .ok (.putfield 224, 3) := by decide +kernel
theorem dRef_takeHead_163 : decode mRef_takeHead.2.1 163 = .ok (.iconst 1, 1) := by decide +kernel
theorem dRef_takeHead_164 : decode mRef_takeHead.2.1 164 = .ok (.ireturn, 1) := by decide +kernel
theorem dRef_takeTag_0 : decode mRef_takeTag.2.1 0 = .ok (.iload_n 3, 1) := by decide +kernel
theorem dRef_takeTag_1 : decode mRef_takeTag.2.1 1 = .ok (.iload_n 1, 1) := by decide +kernel
theorem dRef_takeTag_2 : decode mRef_takeTag.2.1 2 = .ok (.ifCond .ne 7, 3) := by decide +kernel
theorem dRef_takeTag_5 : decode mRef_takeTag.2.1 5 = .ok (.iconst 4, 1) := by decide +kernel
theorem dRef_takeTag_6 : decode mRef_takeTag.2.1 6 = .ok (.goto 14, 3) := by decide +kernel
theorem dRef_takeTag_9 : decode mRef_takeTag.2.1 9 = .ok (.iload_n 1, 1) := by decide +kernel
theorem dRef_takeTag_10 : decode mRef_takeTag.2.1 10 = .ok (.iconst 1, 1) := by decide +kernel
theorem dRef_takeTag_11 : decode mRef_takeTag.2.1 11 = .ok (.if_icmp .ne 7, 3) := by decide +kernel
theorem dRef_takeTag_14 : decode mRef_takeTag.2.1 14 = .ok (.iconst 1, 1) := by decide +kernel
theorem dRef_takeTag_15 : decode mRef_takeTag.2.1 15 = .ok (.goto 5, 3) := by decide +kernel
theorem dRef_takeTag_18 : decode mRef_takeTag.2.1 18 = .ok (.bipush 9, 2) := by decide +kernel
theorem dRef_takeTag_20 : decode mRef_takeTag.2.1 20 = .ok (.if_icmp .eq 5, 3) := by decide +kernel
theorem dRef_takeTag_23 : decode mRef_takeTag.2.1 23 = .ok (.iconst 0, 1) := by decide +kernel
theorem dRef_takeTag_24 : decode mRef_takeTag.2.1 24 = .ok (.ireturn, 1) := by decide +kernel
theorem dRef_takeTag_25 : decode mRef_takeTag.2.1 25 = .ok (.iload_n 1, 1) := by decide +kernel
theorem dRef_takeTag_26 : decode mRef_takeTag.2.1 26 = .ok (.iconst 1, 1) := by decide +kernel
theorem dRef_takeTag_27 : decode mRef_takeTag.2.1 27 = .ok (.if_icmp .ne 12, 3) := by decide +kernel
theorem dRef_takeTag_30 : decode mRef_takeTag.2.1 30 = .ok (.aload_n 0, 1) := by decide +kernel
theorem dRef_takeTag_31 : decode mRef_takeTag.2.1 31 = .ok (.getfield 49, 3) := by decide +kernel
theorem dRef_takeTag_34 : decode mRef_takeTag.2.1 34 = .ok (.iload_n 2, 1) := by decide +kernel
theorem dRef_takeTag_35 : decode mRef_takeTag.2.1 35 = .ok (.iaload, 1) := by decide +kernel
theorem dRef_takeTag_36 : decode mRef_takeTag.2.1 36 = .ok (.goto 11, 3) := by decide +kernel
theorem dRef_takeTag_39 : decode mRef_takeTag.2.1 39 = .ok (.aload_n 0, 1) := by decide +kernel
theorem dRef_takeTag_40 : decode mRef_takeTag.2.1 40 = .ok (.getfield 49, 3) := by decide +kernel
theorem dRef_takeTag_43 : decode mRef_takeTag.2.1 43 = .ok (.iload_n 2, 1) := by decide +kernel
theorem dRef_takeTag_44 : decode mRef_takeTag.2.1 44 = .ok (.invokestatic 199, 3) := by decide +kernel
theorem dRef_takeTag_47 : decode mRef_takeTag.2.1 47 = .ok (.istore 4, 2) := by decide +kernel
theorem dRef_takeTag_49 : decode mRef_takeTag.2.1 49 = .ok (.aload_n 0, 1) := by decide +kernel
theorem dRef_takeTag_50 : decode mRef_takeTag.2.1 50 = .ok (.getfield 55, 3) := by decide +kernel
theorem dRef_takeTag_53 : decode mRef_takeTag.2.1 53 = .ok (.iload_n 1, 1) := by decide +kernel
theorem dRef_takeTag_54 : decode mRef_takeTag.2.1 54 = .ok (.iconst 1, 1) := by decide +kernel
theorem dRef_takeTag_55 : decode mRef_takeTag.2.1 55 = .ok (.bastore, 1) := by decide +kernel
theorem dRef_takeTag_56 : decode mRef_takeTag.2.1 56 = .ok (.aload_n 0, 1) := by decide +kernel
theorem dRef_takeTag_57 : decode mRef_takeTag.2.1 57 = .ok (.getfield 34, 3) := by decide +kernel
theorem dRef_takeTag_60 : decode mRef_takeTag.2.1 60 = .ok (.iload_n 1, 1) := by decide +kernel
theorem dRef_takeTag_61 : decode mRef_takeTag.2.1 61 = .ok (.iload 4, 2) := by decide +kernel
theorem dRef_takeTag_63 : decode mRef_takeTag.2.1 63 = .ok (.iastore, 1) := by decide +kernel
theorem dRef_takeTag_64 : decode mRef_takeTag.2.1 64 = .ok (.iload_n 1, 1) := by decide +kernel
theorem dRef_takeTag_65 : decode mRef_takeTag.2.1 65 = .ok (.iload 4, 2) := by decide +kernel
theorem dRef_takeTag_67 : decode mRef_takeTag.2.1 67 = .ok (.i2l, 1) := by decide +kernel
theorem dRef_takeTag_68 : decode mRef_takeTag.2.1 68 = .ok (.invokestatic 107, 3) := by decide +kernel
theorem dRef_takeTag_71 : decode mRef_takeTag.2.1 71 = .ok (.ifCond .eq 40, 3) := by decide +kernel
theorem dRef_takeTag_74 : decode mRef_takeTag.2.1 74 = .ok (.iload_n 1, 1) := by decide +kernel
theorem dRef_takeTag_75 : decode mRef_takeTag.2.1 75 = .ok (.iconst 2, 1) := by decide +kernel
theorem dRef_takeTag_76 : decode mRef_takeTag.2.1 76 = .ok (.if_icmp .lt 31, 3) := by decide +kernel
theorem dRef_takeTag_79 : decode mRef_takeTag.2.1 79 = .ok (.aload_n 0, 1) := by decide +kernel
theorem dRef_takeTag_80 : decode mRef_takeTag.2.1 80 = .ok (.getfield 49, 3) := by decide +kernel
theorem dRef_takeTag_83 : decode mRef_takeTag.2.1 83 = .ok (.iload_n 2, 1) := by decide +kernel
theorem dRef_takeTag_84 : decode mRef_takeTag.2.1 84 = .ok (.iconst 4, 1) := by decide +kernel
theorem dRef_takeTag_85 : decode mRef_takeTag.2.1 85 = .ok (.iadd, 1) := by decide +kernel
theorem dRef_takeTag_86 : decode mRef_takeTag.2.1 86 = .ok (.invokestatic 199, 3) := by decide +kernel
theorem dRef_takeTag_89 : decode mRef_takeTag.2.1 89 = .ok (.iload 4, 2) := by decide +kernel
theorem dRef_takeTag_91 : decode mRef_takeTag.2.1 91 = .ok (.if_icmp .ne 20, 3) := by decide +kernel
theorem dRef_takeTag_94 : decode mRef_takeTag.2.1 94 = .ok (.aload_n 0, 1) := by decide +kernel
theorem dRef_takeTag_95 : decode mRef_takeTag.2.1 95 = .ok (.getfield 49, 3) := by decide +kernel
theorem dRef_takeTag_98 : decode mRef_takeTag.2.1 98 = .ok (.iload_n 2, 1) := by decide +kernel
theorem dRef_takeTag_99 : decode mRef_takeTag.2.1 99 = .ok (.bipush 8, 2) := by decide +kernel
theorem dRef_takeTag_101 : decode mRef_takeTag.2.1 101 = .ok (.iadd, 1) := by decide +kernel
theorem dRef_takeTag_102 : decode mRef_takeTag.2.1 102 = .ok (.iaload, 1) := by decide +kernel
theorem dRef_takeTag_103 : decode mRef_takeTag.2.1 103 = .ok (.iconst 1, 1) := by decide +kernel
theorem dRef_takeTag_104 : decode mRef_takeTag.2.1 104 = .ok (.if_icmp .ne 7, 3) := by decide +kernel
theorem dRef_takeTag_107 : decode mRef_takeTag.2.1 107 = .ok (.iconst 1, 1) := by decide +kernel
theorem dRef_takeTag_108 : decode mRef_takeTag.2.1 108 = .ok (.goto 4, 3) := by decide +kernel
theorem dRef_takeTag_111 : decode mRef_takeTag.2.1 111 = .ok (.iconst 0, 1) := by decide +kernel
theorem dRef_takeTag_112 : decode mRef_takeTag.2.1 112 = .ok (.ireturn, 1) := by decide +kernel
theorem dRef_takePalette_0 : decode mRef_takePalette.2.1 0 = .ok (.aload_n 0, 1) := by decide +kernel
theorem dRef_takePalette_1 : decode mRef_takePalette.2.1 1 = .ok (.iconst 1, 1) := by decide +kernel
theorem dRef_takePalette_2 : decode mRef_takePalette.2.1 2 = .ok (.putfield 221, 3) := by decide +kernel
theorem dRef_takePalette_5 : decode mRef_takePalette.2.1 5 = .ok (.iload_n 2, 1) := by decide +kernel
theorem dRef_takePalette_6 : decode mRef_takePalette.2.1 6 = .ok (.iconst 3, 1) := by decide +kernel
theorem dRef_takePalette_7 : decode mRef_takePalette.2.1 7 = .ok (.irem, 1) := by decide +kernel
theorem dRef_takePalette_8 : decode mRef_takePalette.2.1 8 = .ok (.ifCond .ne 21, 3) := by decide +kernel
theorem dRef_takePalette_11 : decode mRef_takePalette.2.1 11 = .ok (.iload_n 2, 1) := by decide +kernel
theorem dRef_takePalette_12 : decode mRef_takePalette.2.1 12 = .ok (.iconst 3, 1) := by decide +kernel
theorem dRef_takePalette_13 : decode mRef_takePalette.2.1 13 = .ok (.if_icmp .lt 16, 3) := by decide +kernel
theorem dRef_takePalette_16 : decode mRef_takePalette.2.1 16 = .ok (.iload_n 2, 1) := by decide +kernel
theorem dRef_takePalette_17 : decode mRef_takePalette.2.1 17 = .ok (.iconst 3, 1) := by decide +kernel
theorem dRef_takePalette_18 : decode mRef_takePalette.2.1 18 = .ok (.idiv, 1) := by decide +kernel
theorem dRef_takePalette_19 : decode mRef_takePalette.2.1 19 = .ok (.aload_n 0, 1) := by decide +kernel
theorem dRef_takePalette_20 : decode mRef_takePalette.2.1 20 = .ok (.getfield 239, 3) := by decide +kernel
theorem dRef_takePalette_23 : decode mRef_takePalette.2.1 23 = .ok (.invokestatic 93, 3) := by decide +kernel
theorem dRef_takePalette_26 : decode mRef_takePalette.2.1 26 = .ok (.if_icmp .le 5, 3) := by decide +kernel
theorem dRef_takePalette_29 : decode mRef_takePalette.2.1 29 = .ok (.iconst 0, 1) := by decide +kernel
theorem dRef_takePalette_30 : decode mRef_takePalette.2.1 30 = .ok (.ireturn, 1) := by decide +kernel
theorem dRef_takePalette_31 : decode mRef_takePalette.2.1 31 = .ok (.aload_n 0, 1) := by decide +kernel
theorem dRef_takePalette_32 : decode mRef_takePalette.2.1 32 = .ok (.aload_n 0, 1) := by decide +kernel
theorem dRef_takePalette_33 : decode mRef_takePalette.2.1 33 = .ok (.getfield 224, 3) := by decide +kernel
theorem dRef_takePalette_36 : decode mRef_takePalette.2.1 36 = .ok (.iconst 3, 1) := by decide +kernel
theorem dRef_takePalette_37 : decode mRef_takePalette.2.1 37 = .ok (.if_icmp .ne 9, 3) := by decide +kernel
theorem dRef_takePalette_40 : decode mRef_takePalette.2.1 40 = .ok (.iload_n 2, 1) := by decide +kernel
theorem dRef_takePalette_41 : decode mRef_takePalette.2.1 41 = .ok (.iconst 3, 1) := by decide +kernel
theorem dRef_takePalette_42 : decode mRef_takePalette.2.1 42 = .ok (.idiv, 1) := by decide +kernel
theorem dRef_takePalette_43 : decode mRef_takePalette.2.1 43 = .ok (.goto 4, 3) := by decide +kernel
theorem dRef_takePalette_46 : decode mRef_takePalette.2.1 46 = .ok (.iconst 0, 1) := by decide +kernel
theorem dRef_takePalette_47 : decode mRef_takePalette.2.1 47 = .ok (.putfield 242, 3) := by decide +kernel
theorem dRef_takePalette_50 : decode mRef_takePalette.2.1 50 = .ok (.iconst 0, 1) := by decide +kernel
theorem dRef_takePalette_51 : decode mRef_takePalette.2.1 51 = .ok (.istore_n 3, 1) := by decide +kernel
theorem dRef_takePalette_52 : decode mRef_takePalette.2.1 52 = .ok (.iload_n 3, 1) := by decide +kernel
theorem dRef_takePalette_53 : decode mRef_takePalette.2.1 53 = .ok (.aload_n 0, 1) := by decide +kernel
theorem dRef_takePalette_54 : decode mRef_takePalette.2.1 54 = .ok (.getfield 242, 3) := by decide +kernel
theorem dRef_takePalette_57 : decode mRef_takePalette.2.1 57 = .ok (.if_icmp .ge 84, 3) := by decide +kernel
theorem dRef_takePalette_60 : decode mRef_takePalette.2.1 60 = .ok (.aload_n 0, 1) := by decide +kernel
theorem dRef_takePalette_61 : decode mRef_takePalette.2.1 61 = .ok (.getfield 31, 3) := by decide +kernel
theorem dRef_takePalette_64 : decode mRef_takePalette.2.1 64 = .ok (.iconst 4, 1) := by decide +kernel
theorem dRef_takePalette_65 : decode mRef_takePalette.2.1 65 = .ok (.iload_n 3, 1) := by decide +kernel
theorem dRef_takePalette_66 : decode mRef_takePalette.2.1 66 = .ok (.imul, 1) := by decide +kernel
theorem dRef_takePalette_67 : decode mRef_takePalette.2.1 67 = .ok (.aload_n 0, 1) := by decide +kernel
theorem dRef_takePalette_68 : decode mRef_takePalette.2.1 68 = .ok (.getfield 49, 3) := by decide +kernel
theorem dRef_takePalette_71 : decode mRef_takePalette.2.1 71 = .ok (.iload_n 1, 1) := by decide +kernel
theorem dRef_takePalette_72 : decode mRef_takePalette.2.1 72 = .ok (.iconst 3, 1) := by decide +kernel
theorem dRef_takePalette_73 : decode mRef_takePalette.2.1 73 = .ok (.iload_n 3, 1) := by decide +kernel
theorem dRef_takePalette_74 : decode mRef_takePalette.2.1 74 = .ok (.imul, 1) := by decide +kernel
theorem dRef_takePalette_75 : decode mRef_takePalette.2.1 75 = .ok (.iadd, 1) := by decide +kernel
theorem dRef_takePalette_76 : decode mRef_takePalette.2.1 76 = .ok (.iaload, 1) := by decide +kernel
theorem dRef_takePalette_77 : decode mRef_takePalette.2.1 77 = .ok (.iastore, 1) := by decide +kernel
theorem dRef_takePalette_78 : decode mRef_takePalette.2.1 78 = .ok (.aload_n 0, 1) := by decide +kernel
theorem dRef_takePalette_79 : decode mRef_takePalette.2.1 79 = .ok (.getfield 31, 3) := by decide +kernel
theorem dRef_takePalette_82 : decode mRef_takePalette.2.1 82 = .ok (.iconst 4, 1) := by decide +kernel
theorem dRef_takePalette_83 : decode mRef_takePalette.2.1 83 = .ok (.iload_n 3, 1) := by decide +kernel
theorem dRef_takePalette_84 : decode mRef_takePalette.2.1 84 = .ok (.imul, 1) := by decide +kernel
theorem dRef_takePalette_85 : decode mRef_takePalette.2.1 85 = .ok (.iconst 1, 1) := by decide +kernel
theorem dRef_takePalette_86 : decode mRef_takePalette.2.1 86 = .ok (.iadd, 1) := by decide +kernel
theorem dRef_takePalette_87 : decode mRef_takePalette.2.1 87 = .ok (.aload_n 0, 1) := by decide +kernel
theorem dRef_takePalette_88 : decode mRef_takePalette.2.1 88 = .ok (.getfield 49, 3) := by decide +kernel
theorem dRef_takePalette_91 : decode mRef_takePalette.2.1 91 = .ok (.iload_n 1, 1) := by decide +kernel
theorem dRef_takePalette_92 : decode mRef_takePalette.2.1 92 = .ok (.iconst 3, 1) := by decide +kernel
theorem dRef_takePalette_93 : decode mRef_takePalette.2.1 93 = .ok (.iload_n 3, 1) := by decide +kernel
theorem dRef_takePalette_94 : decode mRef_takePalette.2.1 94 = .ok (.imul, 1) := by decide +kernel
theorem dRef_takePalette_95 : decode mRef_takePalette.2.1 95 = .ok (.iadd, 1) := by decide +kernel
theorem dRef_takePalette_96 : decode mRef_takePalette.2.1 96 = .ok (.iconst 1, 1) := by decide +kernel
theorem dRef_takePalette_97 : decode mRef_takePalette.2.1 97 = .ok (.iadd, 1) := by decide +kernel
theorem dRef_takePalette_98 : decode mRef_takePalette.2.1 98 = .ok (.iaload, 1) := by decide +kernel
theorem dRef_takePalette_99 : decode mRef_takePalette.2.1 99 = .ok (.iastore, 1) := by decide +kernel
theorem dRef_takePalette_100 : decode mRef_takePalette.2.1 100 = .ok (.aload_n 0, 1) := by decide +kernel
theorem dRef_takePalette_101 : decode mRef_takePalette.2.1 101 = .ok (.getfield 31, 3) := by decide +kernel
theorem dRef_takePalette_104 : decode mRef_takePalette.2.1 104 = .ok (.iconst 4, 1) := by decide +kernel
theorem dRef_takePalette_105 : decode mRef_takePalette.2.1 105 = .ok (.iload_n 3, 1) := by decide +kernel
theorem dRef_takePalette_106 : decode mRef_takePalette.2.1 106 = .ok (.imul, 1) := by decide +kernel
theorem dRef_takePalette_107 : decode mRef_takePalette.2.1 107 = .ok (.iconst 2, 1) := by decide +kernel
theorem dRef_takePalette_108 : decode mRef_takePalette.2.1 108 = .ok (.iadd, 1) := by decide +kernel
theorem dRef_takePalette_109 : decode mRef_takePalette.2.1 109 = .ok (.aload_n 0, 1) := by decide +kernel
theorem dRef_takePalette_110 : decode mRef_takePalette.2.1 110 = .ok (.getfield 49, 3) := by decide +kernel
theorem dRef_takePalette_113 : decode mRef_takePalette.2.1 113 = .ok (.iload_n 1, 1) := by decide +kernel
theorem dRef_takePalette_114 : decode mRef_takePalette.2.1 114 = .ok (.iconst 3, 1) := by decide +kernel
theorem dRef_takePalette_115 : decode mRef_takePalette.2.1 115 = .ok (.iload_n 3, 1) := by decide +kernel
theorem dRef_takePalette_116 : decode mRef_takePalette.2.1 116 = .ok (.imul, 1) := by decide +kernel
theorem dRef_takePalette_117 : decode mRef_takePalette.2.1 117 = .ok (.iadd, 1) := by decide +kernel
theorem dRef_takePalette_118 : decode mRef_takePalette.2.1 118 = .ok (.iconst 2, 1) := by decide +kernel
theorem dRef_takePalette_119 : decode mRef_takePalette.2.1 119 = .ok (.iadd, 1) := by decide +kernel
theorem dRef_takePalette_120 : decode mRef_takePalette.2.1 120 = .ok (.iaload, 1) := by decide +kernel
theorem dRef_takePalette_121 : decode mRef_takePalette.2.1 121 = .ok (.iastore, 1) := by decide +kernel
theorem dRef_takePalette_122 : decode mRef_takePalette.2.1 122 = .ok (.aload_n 0, 1) := by decide +kernel
theorem dRef_takePalette_123 : decode mRef_takePalette.2.1 123 = .ok (.getfield 31, 3) := by decide +kernel
theorem dRef_takePalette_126 : decode mRef_takePalette.2.1 126 = .ok (.iconst 4, 1) := by decide +kernel
theorem dRef_takePalette_127 : decode mRef_takePalette.2.1 127 = .ok (.iload_n 3, 1) := by decide +kernel
theorem dRef_takePalette_128 : decode mRef_takePalette.2.1 128 = .ok (.imul, 1) := by decide +kernel
theorem dRef_takePalette_129 : decode mRef_takePalette.2.1 129 = .ok (.iconst 3, 1) := by decide +kernel
theorem dRef_takePalette_130 : decode mRef_takePalette.2.1 130 = .ok (.iadd, 1) := by decide +kernel
theorem dRef_takePalette_131 : decode mRef_takePalette.2.1 131 = .ok (.sipush 255, 3) := by decide +kernel
theorem dRef_takePalette_134 : decode mRef_takePalette.2.1 134 = .ok (.iastore, 1) := by decide +kernel
theorem dRef_takePalette_135 : decode mRef_takePalette.2.1 135 = .ok (.iinc 3 1, 3) := by decide +kernel
theorem dRef_takePalette_138 : decode mRef_takePalette.2.1 138 = .ok (.goto (-86), 3) := by decide +kernel
theorem dRef_takePalette_141 : decode mRef_takePalette.2.1 141 = .ok (.iconst 1, 1) := by decide +kernel
theorem dRef_takePalette_142 : decode mRef_takePalette.2.1 142 = .ok (.ireturn, 1) := by decide +kernel
theorem dRef_takeAlphas_0 : decode mRef_takeAlphas.2.1 0 = .ok (.aload_n 0, 1) := by decide +kernel
theorem dRef_takeAlphas_1 : decode mRef_takeAlphas.2.1 1 = .ok (.iconst 1, 1) := by decide +kernel
theorem dRef_takeAlphas_2 : decode mRef_takeAlphas.2.1 2 = .ok (.putfield 227, 3) := by decide +kernel
theorem dRef_takeAlphas_5 : decode mRef_takeAlphas.2.1 5 = .ok (.aload_n 0, 1) := by decide +kernel
theorem dRef_takeAlphas_6 : decode mRef_takeAlphas.2.1 6 = .ok (.getfield 224, 3) := by decide +kernel
theorem dRef_takeAlphas_9 : decode mRef_takeAlphas.2.1 9 = .ok (.iconst 3, 1) := by decide +kernel
theorem dRef_takeAlphas_10 : decode mRef_takeAlphas.2.1 10 = .ok (.if_icmp .ne 16, 3) := by decide +kernel
theorem dRef_takeAlphas_13 : decode mRef_takeAlphas.2.1 13 = .ok (.iload_n 2, 1) := by decide +kernel
theorem dRef_takeAlphas_14 : decode mRef_takeAlphas.2.1 14 = .ok (.iconst 1, 1) := by decide +kernel
theorem dRef_takeAlphas_15 : decode mRef_takeAlphas.2.1 15 = .ok (.if_icmp .lt 11, 3) := by decide +kernel
theorem dRef_takeAlphas_18 : decode mRef_takeAlphas.2.1 18 = .ok (.iload_n 2, 1) := by decide +kernel
theorem dRef_takeAlphas_19 : decode mRef_takeAlphas.2.1 19 = .ok (.aload_n 0, 1) := by decide +kernel
theorem dRef_takeAlphas_20 : decode mRef_takeAlphas.2.1 20 = .ok (.getfield 242, 3) := by decide +kernel
theorem dRef_takeAlphas_23 : decode mRef_takeAlphas.2.1 23 = .ok (.if_icmp .le 5, 3) := by decide +kernel
theorem dRef_takeAlphas_26 : decode mRef_takeAlphas.2.1 26 = .ok (.iconst 0, 1) := by decide +kernel
theorem dRef_takeAlphas_27 : decode mRef_takeAlphas.2.1 27 = .ok (.ireturn, 1) := by decide +kernel
theorem dRef_takeAlphas_28 : decode mRef_takeAlphas.2.1 28 = .ok (.iconst 0, 1) := by decide +kernel
theorem dRef_takeAlphas_29 : decode mRef_takeAlphas.2.1 29 = .ok (.istore_n 3, 1) := by decide +kernel
theorem dRef_takeAlphas_30 : decode mRef_takeAlphas.2.1 30 = .ok (.iload_n 3, 1) := by decide +kernel
theorem dRef_takeAlphas_31 : decode mRef_takeAlphas.2.1 31 = .ok (.iload_n 2, 1) := by decide +kernel
theorem dRef_takeAlphas_32 : decode mRef_takeAlphas.2.1 32 = .ok (.if_icmp .ge 27, 3) := by decide +kernel
theorem dRef_takeAlphas_35 : decode mRef_takeAlphas.2.1 35 = .ok (.aload_n 0, 1) := by decide +kernel
theorem dRef_takeAlphas_36 : decode mRef_takeAlphas.2.1 36 = .ok (.getfield 31, 3) := by decide +kernel
theorem dRef_takeAlphas_39 : decode mRef_takeAlphas.2.1 39 = .ok (.iconst 4, 1) := by decide +kernel
theorem dRef_takeAlphas_40 : decode mRef_takeAlphas.2.1 40 = .ok (.iload_n 3, 1) := by decide +kernel
theorem dRef_takeAlphas_41 : decode mRef_takeAlphas.2.1 41 = .ok (.imul, 1) := by decide +kernel
theorem dRef_takeAlphas_42 : decode mRef_takeAlphas.2.1 42 = .ok (.iconst 3, 1) := by decide +kernel
theorem dRef_takeAlphas_43 : decode mRef_takeAlphas.2.1 43 = .ok (.iadd, 1) := by decide +kernel
theorem dRef_takeAlphas_44 : decode mRef_takeAlphas.2.1 44 = .ok (.aload_n 0, 1) := by decide +kernel
theorem dRef_takeAlphas_45 : decode mRef_takeAlphas.2.1 45 = .ok (.getfield 49, 3) := by decide +kernel
theorem dRef_takeAlphas_48 : decode mRef_takeAlphas.2.1 48 = .ok (.iload_n 1, 1) := by decide +kernel
theorem dRef_takeAlphas_49 : decode mRef_takeAlphas.2.1 49 = .ok (.iload_n 3, 1) := by decide +kernel
theorem dRef_takeAlphas_50 : decode mRef_takeAlphas.2.1 50 = .ok (.iadd, 1) := by decide +kernel
theorem dRef_takeAlphas_51 : decode mRef_takeAlphas.2.1 51 = .ok (.iaload, 1) := by decide +kernel
theorem dRef_takeAlphas_52 : decode mRef_takeAlphas.2.1 52 = .ok (.iastore, 1) := by decide +kernel
theorem dRef_takeAlphas_53 : decode mRef_takeAlphas.2.1 53 = .ok (.iinc 3 1, 3) := by decide +kernel
theorem dRef_takeAlphas_56 : decode mRef_takeAlphas.2.1 56 = .ok (.goto (-26), 3) := by decide +kernel
theorem dRef_takeAlphas_59 : decode mRef_takeAlphas.2.1 59 = .ok (.iconst 1, 1) := by decide +kernel
theorem dRef_takeAlphas_60 : decode mRef_takeAlphas.2.1 60 = .ok (.ireturn, 1) := by decide +kernel
theorem dRef_takeRows_0 : decode mRef_takeRows.2.1 0 = .ok (.aload_n 0, 1) := by decide +kernel
theorem dRef_takeRows_1 : decode mRef_takeRows.2.1 1 = .ok (.iconst 1, 1) := by decide +kernel
theorem dRef_takeRows_2 : decode mRef_takeRows.2.1 2 = .ok (.putfield 218, 3) := by decide +kernel
theorem dRef_takeRows_5 : decode mRef_takeRows.2.1 5 = .ok (.iconst 0, 1) := by decide +kernel
theorem dRef_takeRows_6 : decode mRef_takeRows.2.1 6 = .ok (.istore_n 3, 1) := by decide +kernel
theorem dRef_takeRows_7 : decode mRef_takeRows.2.1 7 = .ok (.iload_n 3, 1) := by decide +kernel
theorem dRef_takeRows_8 : decode mRef_takeRows.2.1 8 = .ok (.iload_n 2, 1) := by decide +kernel
theorem dRef_takeRows_9 : decode mRef_takeRows.2.1 9 = .ok (.if_icmp .ge 36, 3) := by decide +kernel
theorem dRef_takeRows_12 : decode mRef_takeRows.2.1 12 = .ok (.aload_n 0, 1) := by decide +kernel
theorem dRef_takeRows_13 : decode mRef_takeRows.2.1 13 = .ok (.getfield 52, 3) := by decide +kernel
theorem dRef_takeRows_16 : decode mRef_takeRows.2.1 16 = .ok (.aload_n 0, 1) := by decide +kernel
theorem dRef_takeRows_17 : decode mRef_takeRows.2.1 17 = .ok (.getfield 245, 3) := by decide +kernel
theorem dRef_takeRows_20 : decode mRef_takeRows.2.1 20 = .ok (.aload_n 0, 1) := by decide +kernel
theorem dRef_takeRows_21 : decode mRef_takeRows.2.1 21 = .ok (.getfield 49, 3) := by decide +kernel
theorem dRef_takeRows_24 : decode mRef_takeRows.2.1 24 = .ok (.iload_n 1, 1) := by decide +kernel
theorem dRef_takeRows_25 : decode mRef_takeRows.2.1 25 = .ok (.iload_n 3, 1) := by decide +kernel
theorem dRef_takeRows_26 : decode mRef_takeRows.2.1 26 = .ok (.iadd, 1) := by decide +kernel
theorem dRef_takeRows_27 : decode mRef_takeRows.2.1 27 = .ok (.iaload, 1) := by decide +kernel
theorem dRef_takeRows_28 : decode mRef_takeRows.2.1 28 = .ok (.iastore, 1) := by decide +kernel
theorem dRef_takeRows_29 : decode mRef_takeRows.2.1 29 = .ok (.aload_n 0, 1) := by decide +kernel
theorem dRef_takeRows_30 : decode mRef_takeRows.2.1 30 = .ok (.dup, 1) := by decide +kernel
theorem dRef_takeRows_31 : decode mRef_takeRows.2.1 31 = .ok (.getfield 245, 3) := by decide +kernel
theorem dRef_takeRows_34 : decode mRef_takeRows.2.1 34 = .ok (.iconst 1, 1) := by decide +kernel
theorem dRef_takeRows_35 : decode mRef_takeRows.2.1 35 = .ok (.iadd, 1) := by decide +kernel
theorem dRef_takeRows_36 : decode mRef_takeRows.2.1 36 = .ok (.putfield 245, 3) := by decide +kernel
theorem dRef_takeRows_39 : decode mRef_takeRows.2.1 39 = .ok (.iinc 3 1, 3) := by decide +kernel
theorem dRef_takeRows_42 : decode mRef_takeRows.2.1 42 = .ok (.goto (-35), 3) := by decide +kernel
theorem dRef_takeRows_45 : decode mRef_takeRows.2.1 45 = .ok (.iconst 1, 1) := by decide +kernel
theorem dRef_takeRows_46 : decode mRef_takeRows.2.1 46 = .ok (.ireturn, 1) := by decide +kernel
theorem dRef_takeExtra_0 : decode mRef_takeExtra.2.1 0 = .ok (.iload_n 3, 1) := by decide +kernel
theorem dRef_takeExtra_1 : decode mRef_takeExtra.2.1 1 = .ok (.bipush 40, 2) := by decide +kernel
theorem dRef_takeExtra_3 : decode mRef_takeExtra.2.1 3 = .ok (.if_icmp .gt 12, 3) := by decide +kernel
theorem dRef_takeExtra_6 : decode mRef_takeExtra.2.1 6 = .ok (.aload_n 0, 1) := by decide +kernel
theorem dRef_takeExtra_7 : decode mRef_takeExtra.2.1 7 = .ok (.getfield 248, 3) := by decide +kernel
theorem dRef_takeExtra_10 : decode mRef_takeExtra.2.1 10 = .ok (.bipush 6, 2) := by decide +kernel
theorem dRef_takeExtra_12 : decode mRef_takeExtra.2.1 12 = .ok (.if_icmp .ne 5, 3) := by decide +kernel
theorem dRef_takeExtra_15 : decode mRef_takeExtra.2.1 15 = .ok (.iconst 0, 1) := by decide +kernel
theorem dRef_takeExtra_16 : decode mRef_takeExtra.2.1 16 = .ok (.ireturn, 1) := by decide +kernel
theorem dRef_takeExtra_17 : decode mRef_takeExtra.2.1 17 = .ok (.aload_n 0, 1) := by decide +kernel
theorem dRef_takeExtra_18 : decode mRef_takeExtra.2.1 18 = .ok (.getfield 37, 3) := by decide +kernel
theorem dRef_takeExtra_21 : decode mRef_takeExtra.2.1 21 = .ok (.aload_n 0, 1) := by decide +kernel
theorem dRef_takeExtra_22 : decode mRef_takeExtra.2.1 22 = .ok (.getfield 248, 3) := by decide +kernel
theorem dRef_takeExtra_25 : decode mRef_takeExtra.2.1 25 = .ok (.iload_n 1, 1) := by decide +kernel
theorem dRef_takeExtra_26 : decode mRef_takeExtra.2.1 26 = .ok (.iastore, 1) := by decide +kernel
theorem dRef_takeExtra_27 : decode mRef_takeExtra.2.1 27 = .ok (.aload_n 0, 1) := by decide +kernel
theorem dRef_takeExtra_28 : decode mRef_takeExtra.2.1 28 = .ok (.getfield 40, 3) := by decide +kernel
theorem dRef_takeExtra_31 : decode mRef_takeExtra.2.1 31 = .ok (.aload_n 0, 1) := by decide +kernel
theorem dRef_takeExtra_32 : decode mRef_takeExtra.2.1 32 = .ok (.getfield 248, 3) := by decide +kernel
theorem dRef_takeExtra_35 : decode mRef_takeExtra.2.1 35 = .ok (.iload_n 3, 1) := by decide +kernel
theorem dRef_takeExtra_36 : decode mRef_takeExtra.2.1 36 = .ok (.iastore, 1) := by decide +kernel
theorem dRef_takeExtra_37 : decode mRef_takeExtra.2.1 37 = .ok (.iconst 0, 1) := by decide +kernel
theorem dRef_takeExtra_38 : decode mRef_takeExtra.2.1 38 = .ok (.istore 4, 2) := by decide +kernel
theorem dRef_takeExtra_40 : decode mRef_takeExtra.2.1 40 = .ok (.iload 4, 2) := by decide +kernel
theorem dRef_takeExtra_42 : decode mRef_takeExtra.2.1 42 = .ok (.iload_n 3, 1) := by decide +kernel
theorem dRef_takeExtra_43 : decode mRef_takeExtra.2.1 43 = .ok (.if_icmp .ge 33, 3) := by decide +kernel
theorem dRef_takeExtra_46 : decode mRef_takeExtra.2.1 46 = .ok (.aload_n 0, 1) := by decide +kernel
theorem dRef_takeExtra_47 : decode mRef_takeExtra.2.1 47 = .ok (.getfield 43, 3) := by decide +kernel
theorem dRef_takeExtra_50 : decode mRef_takeExtra.2.1 50 = .ok (.bipush 40, 2) := by decide +kernel
theorem dRef_takeExtra_52 : decode mRef_takeExtra.2.1 52 = .ok (.aload_n 0, 1) := by decide +kernel
theorem dRef_takeExtra_53 : decode mRef_takeExtra.2.1 53 = .ok (.getfield 248, 3) := by decide +kernel
theorem dRef_takeExtra_56 : decode mRef_takeExtra.2.1 56 = .ok (.imul, 1) := by decide +kernel
theorem dRef_takeExtra_57 : decode mRef_takeExtra.2.1 57 = .ok (.iload 4, 2) := by decide +kernel
theorem dRef_takeExtra_59 : decode mRef_takeExtra.2.1 59 = .ok (.iadd, 1) := by decide +kernel
theorem dRef_takeExtra_60 : decode mRef_takeExtra.2.1 60 = .ok (.aload_n 0, 1) := by decide +kernel
theorem dRef_takeExtra_61 : decode mRef_takeExtra.2.1 61 = .ok (.getfield 49, 3) := by decide +kernel
theorem dRef_takeExtra_64 : decode mRef_takeExtra.2.1 64 = .ok (.iload_n 2, 1) := by decide +kernel
theorem dRef_takeExtra_65 : decode mRef_takeExtra.2.1 65 = .ok (.iload 4, 2) := by decide +kernel
theorem dRef_takeExtra_67 : decode mRef_takeExtra.2.1 67 = .ok (.iadd, 1) := by decide +kernel
theorem dRef_takeExtra_68 : decode mRef_takeExtra.2.1 68 = .ok (.iaload, 1) := by decide +kernel
theorem dRef_takeExtra_69 : decode mRef_takeExtra.2.1 69 = .ok (.iastore, 1) := by decide +kernel
theorem dRef_takeExtra_70 : decode mRef_takeExtra.2.1 70 = .ok (.iinc 4 1, 3) := by decide +kernel
theorem dRef_takeExtra_73 : decode mRef_takeExtra.2.1 73 = .ok (.goto (-33), 3) := by decide +kernel
theorem dRef_takeExtra_76 : decode mRef_takeExtra.2.1 76 = .ok (.aload_n 0, 1) := by decide +kernel
theorem dRef_takeExtra_77 : decode mRef_takeExtra.2.1 77 = .ok (.dup, 1) := by decide +kernel
theorem dRef_takeExtra_78 : decode mRef_takeExtra.2.1 78 = .ok (.getfield 248, 3) := by decide +kernel
theorem dRef_takeExtra_81 : decode mRef_takeExtra.2.1 81 = .ok (.iconst 1, 1) := by decide +kernel
theorem dRef_takeExtra_82 : decode mRef_takeExtra.2.1 82 = .ok (.iadd, 1) := by decide +kernel
theorem dRef_takeExtra_83 : decode mRef_takeExtra.2.1 83 = .ok (.putfield 248, 3) := by decide +kernel
theorem dRef_takeExtra_86 : decode mRef_takeExtra.2.1 86 = .ok (.iconst 1, 1) := by decide +kernel
theorem dRef_takeExtra_87 : decode mRef_takeExtra.2.1 87 = .ok (.ireturn, 1) := by decide +kernel
theorem dRef_takes_0 : decode mRef_takes.2.1 0 = .ok (.iload_n 1, 1) := by decide +kernel
theorem dRef_takes_1 : decode mRef_takes.2.1 1 = .ok (.lookupswitch 89 #[(1229209940, 72), (1229278788, 79), (1229472850, 51), (1347179589, 58), (1951551059, 65)], 51) := by decide +kernel
theorem dRef_takes_52 : decode mRef_takes.2.1 52 = .ok (.aload_n 0, 1) := by decide +kernel
theorem dRef_takes_53 : decode mRef_takes.2.1 53 = .ok (.iload_n 2, 1) := by decide +kernel
theorem dRef_takes_54 : decode mRef_takes.2.1 54 = .ok (.iload_n 3, 1) := by decide +kernel
theorem dRef_takes_55 : decode mRef_takes.2.1 55 = .ok (.invokevirtual 251, 3) := by decide +kernel
theorem dRef_takes_58 : decode mRef_takes.2.1 58 = .ok (.ireturn, 1) := by decide +kernel
theorem dRef_takes_59 : decode mRef_takes.2.1 59 = .ok (.aload_n 0, 1) := by decide +kernel
theorem dRef_takes_60 : decode mRef_takes.2.1 60 = .ok (.iload_n 2, 1) := by decide +kernel
theorem dRef_takes_61 : decode mRef_takes.2.1 61 = .ok (.iload_n 3, 1) := by decide +kernel
theorem dRef_takes_62 : decode mRef_takes.2.1 62 = .ok (.invokevirtual 255, 3) := by decide +kernel
theorem dRef_takes_65 : decode mRef_takes.2.1 65 = .ok (.ireturn, 1) := by decide +kernel
theorem dRef_takes_66 : decode mRef_takes.2.1 66 = .ok (.aload_n 0, 1) := by decide +kernel
theorem dRef_takes_67 : decode mRef_takes.2.1 67 = .ok (.iload_n 2, 1) := by decide +kernel
theorem dRef_takes_68 : decode mRef_takes.2.1 68 = .ok (.iload_n 3, 1) := by decide +kernel
theorem dRef_takes_69 : decode mRef_takes.2.1 69 = .ok (.invokevirtual 258, 3) := by decide +kernel
theorem dRef_takes_72 : decode mRef_takes.2.1 72 = .ok (.ireturn, 1) := by decide +kernel
theorem dRef_takes_73 : decode mRef_takes.2.1 73 = .ok (.aload_n 0, 1) := by decide +kernel
theorem dRef_takes_74 : decode mRef_takes.2.1 74 = .ok (.iload_n 2, 1) := by decide +kernel
theorem dRef_takes_75 : decode mRef_takes.2.1 75 = .ok (.iload_n 3, 1) := by decide +kernel
theorem dRef_takes_76 : decode mRef_takes.2.1 76 = .ok (.invokevirtual 261, 3) := by decide +kernel
theorem dRef_takes_79 : decode mRef_takes.2.1 79 = .ok (.ireturn, 1) := by decide +kernel
theorem dRef_takes_80 : decode mRef_takes.2.1 80 = .ok (.iload_n 3, 1) := by decide +kernel
theorem dRef_takes_81 : decode mRef_takes.2.1 81 = .ok (.ifCond .ne 7, 3) := by decide +kernel
theorem dRef_takes_84 : decode mRef_takes.2.1 84 = .ok (.iconst 1, 1) := by decide +kernel
theorem dRef_takes_85 : decode mRef_takes.2.1 85 = .ok (.goto 4, 3) := by decide +kernel
theorem dRef_takes_88 : decode mRef_takes.2.1 88 = .ok (.iconst 0, 1) := by decide +kernel
theorem dRef_takes_89 : decode mRef_takes.2.1 89 = .ok (.ireturn, 1) := by decide +kernel
theorem dRef_takes_90 : decode mRef_takes.2.1 90 = .ok (.iload_n 1, 1) := by decide +kernel
theorem dRef_takes_91 : decode mRef_takes.2.1 91 = .ok (.invokestatic 215, 3) := by decide +kernel
theorem dRef_takes_94 : decode mRef_takes.2.1 94 = .ok (.iconst (-1), 1) := by decide +kernel
theorem dRef_takes_95 : decode mRef_takes.2.1 95 = .ok (.if_icmp .ne 13, 3) := by decide +kernel
theorem dRef_takes_98 : decode mRef_takes.2.1 98 = .ok (.aload_n 0, 1) := by decide +kernel
theorem dRef_takes_99 : decode mRef_takes.2.1 99 = .ok (.iload_n 1, 1) := by decide +kernel
theorem dRef_takes_100 : decode mRef_takes.2.1 100 = .ok (.iload_n 2, 1) := by decide +kernel
theorem dRef_takes_101 : decode mRef_takes.2.1 101 = .ok (.iload_n 3, 1) := by decide +kernel
theorem dRef_takes_102 : decode mRef_takes.2.1 102 = .ok (.invokevirtual 264, 3) := by decide +kernel
theorem dRef_takes_105 : decode mRef_takes.2.1 105 = .ok (.goto 13, 3) := by decide +kernel
theorem dRef_takes_108 : decode mRef_takes.2.1 108 = .ok (.aload_n 0, 1) := by decide +kernel
theorem dRef_takes_109 : decode mRef_takes.2.1 109 = .ok (.iload_n 1, 1) := by decide +kernel
theorem dRef_takes_110 : decode mRef_takes.2.1 110 = .ok (.invokestatic 215, 3) := by decide +kernel
theorem dRef_takes_113 : decode mRef_takes.2.1 113 = .ok (.iload_n 2, 1) := by decide +kernel
theorem dRef_takes_114 : decode mRef_takes.2.1 114 = .ok (.iload_n 3, 1) := by decide +kernel
theorem dRef_takes_115 : decode mRef_takes.2.1 115 = .ok (.invokevirtual 268, 3) := by decide +kernel
theorem dRef_takes_118 : decode mRef_takes.2.1 118 = .ok (.ireturn, 1) := by decide +kernel
theorem dRef_rowBits_0 : decode mRef_rowBits.2.1 0 = .ok (.iconst 0, 1) := by decide +kernel
theorem dRef_rowBits_1 : decode mRef_rowBits.2.1 1 = .ok (.istore_n 3, 1) := by decide +kernel
theorem dRef_rowBits_2 : decode mRef_rowBits.2.1 2 = .ok (.iload_n 1, 1) := by decide +kernel
theorem dRef_rowBits_3 : decode mRef_rowBits.2.1 3 = .ok (.istore 4, 2) := by decide +kernel
theorem dRef_rowBits_5 : decode mRef_rowBits.2.1 5 = .ok (.iload 4, 2) := by decide +kernel
theorem dRef_rowBits_7 : decode mRef_rowBits.2.1 7 = .ok (.iload_n 1, 1) := by decide +kernel
theorem dRef_rowBits_8 : decode mRef_rowBits.2.1 8 = .ok (.iload_n 2, 1) := by decide +kernel
theorem dRef_rowBits_9 : decode mRef_rowBits.2.1 9 = .ok (.iadd, 1) := by decide +kernel
theorem dRef_rowBits_10 : decode mRef_rowBits.2.1 10 = .ok (.if_icmp .ge 35, 3) := by decide +kernel
theorem dRef_rowBits_13 : decode mRef_rowBits.2.1 13 = .ok (.iconst 2, 1) := by decide +kernel
theorem dRef_rowBits_14 : decode mRef_rowBits.2.1 14 = .ok (.iload_n 3, 1) := by decide +kernel
theorem dRef_rowBits_15 : decode mRef_rowBits.2.1 15 = .ok (.imul, 1) := by decide +kernel
theorem dRef_rowBits_16 : decode mRef_rowBits.2.1 16 = .ok (.aload_n 0, 1) := by decide +kernel
theorem dRef_rowBits_17 : decode mRef_rowBits.2.1 17 = .ok (.getfield 52, 3) := by decide +kernel
theorem dRef_rowBits_20 : decode mRef_rowBits.2.1 20 = .ok (.iload 4, 2) := by decide +kernel
theorem dRef_rowBits_22 : decode mRef_rowBits.2.1 22 = .ok (.bipush 8, 2) := by decide +kernel
theorem dRef_rowBits_24 : decode mRef_rowBits.2.1 24 = .ok (.idiv, 1) := by decide +kernel
theorem dRef_rowBits_25 : decode mRef_rowBits.2.1 25 = .ok (.iaload, 1) := by decide +kernel
theorem dRef_rowBits_26 : decode mRef_rowBits.2.1 26 = .ok (.bipush 7, 2) := by decide +kernel
theorem dRef_rowBits_28 : decode mRef_rowBits.2.1 28 = .ok (.iload 4, 2) := by decide +kernel
theorem dRef_rowBits_30 : decode mRef_rowBits.2.1 30 = .ok (.bipush 8, 2) := by decide +kernel
theorem dRef_rowBits_32 : decode mRef_rowBits.2.1 32 = .ok (.irem, 1) := by decide +kernel
theorem dRef_rowBits_33 : decode mRef_rowBits.2.1 33 = .ok (.isub, 1) := by decide +kernel
theorem dRef_rowBits_34 : decode mRef_rowBits.2.1 34 = .ok (.ishr, 1) := by decide +kernel
theorem dRef_rowBits_35 : decode mRef_rowBits.2.1 35 = .ok (.iconst 1, 1) := by decide +kernel
theorem dRef_rowBits_36 : decode mRef_rowBits.2.1 36 = .ok (.iand, 1) := by decide +kernel
theorem dRef_rowBits_37 : decode mRef_rowBits.2.1 37 = .ok (.iadd, 1) := by decide +kernel
theorem dRef_rowBits_38 : decode mRef_rowBits.2.1 38 = .ok (.istore_n 3, 1) := by decide +kernel
theorem dRef_rowBits_39 : decode mRef_rowBits.2.1 39 = .ok (.iinc 4 1, 3) := by decide +kernel
theorem dRef_rowBits_42 : decode mRef_rowBits.2.1 42 = .ok (.goto (-37), 3) := by decide +kernel
theorem dRef_rowBits_45 : decode mRef_rowBits.2.1 45 = .ok (.iload_n 3, 1) := by decide +kernel
theorem dRef_rowBits_46 : decode mRef_rowBits.2.1 46 = .ok (.ireturn, 1) := by decide +kernel
theorem dRef_unpack_0 : decode mRef_unpack.2.1 0 = .ok (.aload_n 0, 1) := by decide +kernel
theorem dRef_unpack_1 : decode mRef_unpack.2.1 1 = .ok (.getfield 233, 3) := by decide +kernel
theorem dRef_unpack_4 : decode mRef_unpack.2.1 4 = .ok (.aload_n 0, 1) := by decide +kernel
theorem dRef_unpack_5 : decode mRef_unpack.2.1 5 = .ok (.getfield 224, 3) := by decide +kernel
theorem dRef_unpack_8 : decode mRef_unpack.2.1 8 = .ok (.aload_n 0, 1) := by decide +kernel
theorem dRef_unpack_9 : decode mRef_unpack.2.1 9 = .ok (.getfield 239, 3) := by decide +kernel
theorem dRef_unpack_12 : decode mRef_unpack.2.1 12 = .ok (.invokestatic 174, 3) := by decide +kernel
theorem dRef_unpack_15 : decode mRef_unpack.2.1 15 = .ok (.istore_n 1, 1) := by decide +kernel
theorem dRef_unpack_16 : decode mRef_unpack.2.1 16 = .ok (.aload_n 0, 1) := by decide +kernel
theorem dRef_unpack_17 : decode mRef_unpack.2.1 17 = .ok (.getfield 245, 3) := by decide +kernel
theorem dRef_unpack_20 : decode mRef_unpack.2.1 20 = .ok (.iload_n 1, 1) := by decide +kernel
theorem dRef_unpack_21 : decode mRef_unpack.2.1 21 = .ok (.aload_n 0, 1) := by decide +kernel
theorem dRef_unpack_22 : decode mRef_unpack.2.1 22 = .ok (.getfield 236, 3) := by decide +kernel
theorem dRef_unpack_25 : decode mRef_unpack.2.1 25 = .ok (.imul, 1) := by decide +kernel
theorem dRef_unpack_26 : decode mRef_unpack.2.1 26 = .ok (.if_icmp .eq 5, 3) := by decide +kernel
theorem dRef_unpack_29 : decode mRef_unpack.2.1 29 = .ok (.iconst 0, 1) := by decide +kernel
theorem dRef_unpack_30 : decode mRef_unpack.2.1 30 = .ok (.ireturn, 1) := by decide +kernel
theorem dRef_unpack_31 : decode mRef_unpack.2.1 31 = .ok (.aload_n 0, 1) := by decide +kernel
theorem dRef_unpack_32 : decode mRef_unpack.2.1 32 = .ok (.getfield 224, 3) := by decide +kernel
theorem dRef_unpack_35 : decode mRef_unpack.2.1 35 = .ok (.invokestatic 100, 3) := by decide +kernel
theorem dRef_unpack_38 : decode mRef_unpack.2.1 38 = .ok (.istore_n 2, 1) := by decide +kernel
theorem dRef_unpack_39 : decode mRef_unpack.2.1 39 = .ok (.iconst 1, 1) := by decide +kernel
theorem dRef_unpack_40 : decode mRef_unpack.2.1 40 = .ok (.istore_n 3, 1) := by decide +kernel
theorem dRef_unpack_41 : decode mRef_unpack.2.1 41 = .ok (.iconst 0, 1) := by decide +kernel
theorem dRef_unpack_42 : decode mRef_unpack.2.1 42 = .ok (.istore 4, 2) := by decide +kernel
theorem dRef_unpack_44 : decode mRef_unpack.2.1 44 = .ok (.iload 4, 2) := by decide +kernel
theorem dRef_unpack_46 : decode mRef_unpack.2.1 46 = .ok (.aload_n 0, 1) := by decide +kernel
theorem dRef_unpack_47 : decode mRef_unpack.2.1 47 = .ok (.getfield 236, 3) := by decide +kernel
theorem dRef_unpack_50 : decode mRef_unpack.2.1 50 = .ok (.if_icmp .ge 165, 3) := by decide +kernel
theorem dRef_unpack_53 : decode mRef_unpack.2.1 53 = .ok (.iload_n 3, 1) := by decide +kernel
theorem dRef_unpack_54 : decode mRef_unpack.2.1 54 = .ok (.ifCond .eq 19, 3) := by decide +kernel
theorem dRef_unpack_57 : decode mRef_unpack.2.1 57 = .ok (.aload_n 0, 1) := by decide +kernel
theorem dRef_unpack_58 : decode mRef_unpack.2.1 58 = .ok (.getfield 52, 3) := by decide +kernel
theorem dRef_unpack_61 : decode mRef_unpack.2.1 61 = .ok (.iload_n 1, 1) := by decide +kernel
theorem dRef_unpack_62 : decode mRef_unpack.2.1 62 = .ok (.iload 4, 2) := by decide +kernel
theorem dRef_unpack_64 : decode mRef_unpack.2.1 64 = .ok (.imul, 1) := by decide +kernel
theorem dRef_unpack_65 : decode mRef_unpack.2.1 65 = .ok (.iaload, 1) := by decide +kernel
theorem dRef_unpack_66 : decode mRef_unpack.2.1 66 = .ok (.ifCond .ne 7, 3) := by decide +kernel
theorem dRef_unpack_69 : decode mRef_unpack.2.1 69 = .ok (.iconst 1, 1) := by decide +kernel
theorem dRef_unpack_70 : decode mRef_unpack.2.1 70 = .ok (.goto 4, 3) := by decide +kernel
theorem dRef_unpack_73 : decode mRef_unpack.2.1 73 = .ok (.iconst 0, 1) := by decide +kernel
theorem dRef_unpack_74 : decode mRef_unpack.2.1 74 = .ok (.istore_n 3, 1) := by decide +kernel
theorem dRef_unpack_75 : decode mRef_unpack.2.1 75 = .ok (.bipush 8, 2) := by decide +kernel
theorem dRef_unpack_77 : decode mRef_unpack.2.1 77 = .ok (.iload_n 1, 1) := by decide +kernel
theorem dRef_unpack_78 : decode mRef_unpack.2.1 78 = .ok (.iload 4, 2) := by decide +kernel
theorem dRef_unpack_80 : decode mRef_unpack.2.1 80 = .ok (.imul, 1) := by decide +kernel
theorem dRef_unpack_81 : decode mRef_unpack.2.1 81 = .ok (.iconst 1, 1) := by decide +kernel
theorem dRef_unpack_82 : decode mRef_unpack.2.1 82 = .ok (.iadd, 1) := by decide +kernel
theorem dRef_unpack_83 : decode mRef_unpack.2.1 83 = .ok (.imul, 1) := by decide +kernel
theorem dRef_unpack_84 : decode mRef_unpack.2.1 84 = .ok (.istore 5, 2) := by decide +kernel
theorem dRef_unpack_86 : decode mRef_unpack.2.1 86 = .ok (.iconst 0, 1) := by decide +kernel
theorem dRef_unpack_87 : decode mRef_unpack.2.1 87 = .ok (.istore 6, 2) := by decide +kernel
theorem dRef_unpack_89 : decode mRef_unpack.2.1 89 = .ok (.iload 6, 2) := by decide +kernel
theorem dRef_unpack_91 : decode mRef_unpack.2.1 91 = .ok (.aload_n 0, 1) := by decide +kernel
theorem dRef_unpack_92 : decode mRef_unpack.2.1 92 = .ok (.getfield 233, 3) := by decide +kernel
theorem dRef_unpack_95 : decode mRef_unpack.2.1 95 = .ok (.iload_n 2, 1) := by decide +kernel
theorem dRef_unpack_96 : decode mRef_unpack.2.1 96 = .ok (.imul, 1) := by decide +kernel
theorem dRef_unpack_97 : decode mRef_unpack.2.1 97 = .ok (.if_icmp .ge 81, 3) := by decide +kernel
theorem dRef_unpack_100 : decode mRef_unpack.2.1 100 = .ok (.aload_n 0, 1) := by decide +kernel
theorem dRef_unpack_101 : decode mRef_unpack.2.1 101 = .ok (.iload 5, 2) := by decide +kernel
theorem dRef_unpack_103 : decode mRef_unpack.2.1 103 = .ok (.aload_n 0, 1) := by decide +kernel
theorem dRef_unpack_104 : decode mRef_unpack.2.1 104 = .ok (.getfield 239, 3) := by decide +kernel
theorem dRef_unpack_107 : decode mRef_unpack.2.1 107 = .ok (.invokevirtual 271, 3) := by decide +kernel
theorem dRef_unpack_110 : decode mRef_unpack.2.1 110 = .ok (.istore 7, 2) := by decide +kernel
theorem dRef_unpack_112 : decode mRef_unpack.2.1 112 = .ok (.iload 5, 2) := by decide +kernel
theorem dRef_unpack_114 : decode mRef_unpack.2.1 114 = .ok (.aload_n 0, 1) := by decide +kernel
theorem dRef_unpack_115 : decode mRef_unpack.2.1 115 = .ok (.getfield 239, 3) := by decide +kernel
theorem dRef_unpack_118 : decode mRef_unpack.2.1 118 = .ok (.iadd, 1) := by decide +kernel
theorem dRef_unpack_119 : decode mRef_unpack.2.1 119 = .ok (.istore 5, 2) := by decide +kernel
theorem dRef_unpack_121 : decode mRef_unpack.2.1 121 = .ok (.iload_n 3, 1) := by decide +kernel
theorem dRef_unpack_122 : decode mRef_unpack.2.1 122 = .ok (.ifCond .eq 24, 3) := by decide +kernel
theorem dRef_unpack_125 : decode mRef_unpack.2.1 125 = .ok (.aload_n 0, 1) := by decide +kernel
theorem dRef_unpack_126 : decode mRef_unpack.2.1 126 = .ok (.getfield 224, 3) := by decide +kernel
theorem dRef_unpack_129 : decode mRef_unpack.2.1 129 = .ok (.iconst 3, 1) := by decide +kernel
theorem dRef_unpack_130 : decode mRef_unpack.2.1 130 = .ok (.if_icmp .ne 12, 3) := by decide +kernel
theorem dRef_unpack_133 : decode mRef_unpack.2.1 133 = .ok (.iload 7, 2) := by decide +kernel
theorem dRef_unpack_135 : decode mRef_unpack.2.1 135 = .ok (.aload_n 0, 1) := by decide +kernel
theorem dRef_unpack_136 : decode mRef_unpack.2.1 136 = .ok (.getfield 242, 3) := by decide +kernel
theorem dRef_unpack_139 : decode mRef_unpack.2.1 139 = .ok (.if_icmp .ge 7, 3) := by decide +kernel
theorem dRef_unpack_142 : decode mRef_unpack.2.1 142 = .ok (.iconst 1, 1) := by decide +kernel
theorem dRef_unpack_143 : decode mRef_unpack.2.1 143 = .ok (.goto 4, 3) := by decide +kernel
theorem dRef_unpack_146 : decode mRef_unpack.2.1 146 = .ok (.iconst 0, 1) := by decide +kernel
theorem dRef_unpack_147 : decode mRef_unpack.2.1 147 = .ok (.istore_n 3, 1) := by decide +kernel
theorem dRef_unpack_148 : decode mRef_unpack.2.1 148 = .ok (.aload_n 0, 1) := by decide +kernel
theorem dRef_unpack_149 : decode mRef_unpack.2.1 149 = .ok (.getfield 28, 3) := by decide +kernel
theorem dRef_unpack_152 : decode mRef_unpack.2.1 152 = .ok (.iconst 4, 1) := by decide +kernel
theorem dRef_unpack_153 : decode mRef_unpack.2.1 153 = .ok (.bipush 12, 2) := by decide +kernel
theorem dRef_unpack_155 : decode mRef_unpack.2.1 155 = .ok (.iload 4, 2) := by decide +kernel
theorem dRef_unpack_157 : decode mRef_unpack.2.1 157 = .ok (.imul, 1) := by decide +kernel
theorem dRef_unpack_158 : decode mRef_unpack.2.1 158 = .ok (.iload 6, 2) := by decide +kernel
theorem dRef_unpack_160 : decode mRef_unpack.2.1 160 = .ok (.iload_n 2, 1) := by decide +kernel
theorem dRef_unpack_161 : decode mRef_unpack.2.1 161 = .ok (.idiv, 1) := by decide +kernel
theorem dRef_unpack_162 : decode mRef_unpack.2.1 162 = .ok (.iadd, 1) := by decide +kernel
theorem dRef_unpack_163 : decode mRef_unpack.2.1 163 = .ok (.imul, 1) := by decide +kernel
theorem dRef_unpack_164 : decode mRef_unpack.2.1 164 = .ok (.iload 6, 2) := by decide +kernel
theorem dRef_unpack_166 : decode mRef_unpack.2.1 166 = .ok (.iload_n 2, 1) := by decide +kernel
theorem dRef_unpack_167 : decode mRef_unpack.2.1 167 = .ok (.irem, 1) := by decide +kernel
theorem dRef_unpack_168 : decode mRef_unpack.2.1 168 = .ok (.iadd, 1) := by decide +kernel
theorem dRef_unpack_169 : decode mRef_unpack.2.1 169 = .ok (.iload 7, 2) := by decide +kernel
theorem dRef_unpack_171 : decode mRef_unpack.2.1 171 = .ok (.iastore, 1) := by decide +kernel
theorem dRef_unpack_172 : decode mRef_unpack.2.1 172 = .ok (.iinc 6 1, 3) := by decide +kernel
theorem dRef_unpack_175 : decode mRef_unpack.2.1 175 = .ok (.goto (-86), 3) := by decide +kernel
theorem dRef_unpack_178 : decode mRef_unpack.2.1 178 = .ok (.iload_n 3, 1) := by decide +kernel
theorem dRef_unpack_179 : decode mRef_unpack.2.1 179 = .ok (.ifCond .eq 28, 3) := by decide +kernel
theorem dRef_unpack_182 : decode mRef_unpack.2.1 182 = .ok (.aload_n 0, 1) := by decide +kernel
theorem dRef_unpack_183 : decode mRef_unpack.2.1 183 = .ok (.iload 5, 2) := by decide +kernel
theorem dRef_unpack_185 : decode mRef_unpack.2.1 185 = .ok (.bipush 8, 2) := by decide +kernel
theorem dRef_unpack_187 : decode mRef_unpack.2.1 187 = .ok (.iload_n 1, 1) := by decide +kernel
theorem dRef_unpack_188 : decode mRef_unpack.2.1 188 = .ok (.imul, 1) := by decide +kernel
theorem dRef_unpack_189 : decode mRef_unpack.2.1 189 = .ok (.iload 4, 2) := by decide +kernel
theorem dRef_unpack_191 : decode mRef_unpack.2.1 191 = .ok (.iconst 1, 1) := by decide +kernel
theorem dRef_unpack_192 : decode mRef_unpack.2.1 192 = .ok (.iadd, 1) := by decide +kernel
theorem dRef_unpack_193 : decode mRef_unpack.2.1 193 = .ok (.imul, 1) := by decide +kernel
theorem dRef_unpack_194 : decode mRef_unpack.2.1 194 = .ok (.iload 5, 2) := by decide +kernel
theorem dRef_unpack_196 : decode mRef_unpack.2.1 196 = .ok (.isub, 1) := by decide +kernel
theorem dRef_unpack_197 : decode mRef_unpack.2.1 197 = .ok (.invokevirtual 271, 3) := by decide +kernel
theorem dRef_unpack_200 : decode mRef_unpack.2.1 200 = .ok (.ifCond .ne 7, 3) := by decide +kernel
theorem dRef_unpack_203 : decode mRef_unpack.2.1 203 = .ok (.iconst 1, 1) := by decide +kernel
theorem dRef_unpack_204 : decode mRef_unpack.2.1 204 = .ok (.goto 4, 3) := by decide +kernel
theorem dRef_unpack_207 : decode mRef_unpack.2.1 207 = .ok (.iconst 0, 1) := by decide +kernel
theorem dRef_unpack_208 : decode mRef_unpack.2.1 208 = .ok (.istore_n 3, 1) := by decide +kernel
theorem dRef_unpack_209 : decode mRef_unpack.2.1 209 = .ok (.iinc 4 1, 3) := by decide +kernel
theorem dRef_unpack_212 : decode mRef_unpack.2.1 212 = .ok (.goto (-168), 3) := by decide +kernel
theorem dRef_unpack_215 : decode mRef_unpack.2.1 215 = .ok (.iload_n 3, 1) := by decide +kernel
theorem dRef_unpack_216 : decode mRef_unpack.2.1 216 = .ok (.ireturn, 1) := by decide +kernel
theorem dRef_begin_0 : decode mRef_begin.2.1 0 = .ok (.aload_n 0, 1) := by decide +kernel
theorem dRef_begin_1 : decode mRef_begin.2.1 1 = .ok (.iconst 0, 1) := by decide +kernel
theorem dRef_begin_2 : decode mRef_begin.2.1 2 = .ok (.putfield 206, 3) := by decide +kernel
theorem dRef_begin_5 : decode mRef_begin.2.1 5 = .ok (.aload_n 0, 1) := by decide +kernel
theorem dRef_begin_6 : decode mRef_begin.2.1 6 = .ok (.iconst 0, 1) := by decide +kernel
theorem dRef_begin_7 : decode mRef_begin.2.1 7 = .ok (.putfield 274, 3) := by decide +kernel
theorem dRef_begin_10 : decode mRef_begin.2.1 10 = .ok (.aload_n 0, 1) := by decide +kernel
theorem dRef_begin_11 : decode mRef_begin.2.1 11 = .ok (.iconst 0, 1) := by decide +kernel
theorem dRef_begin_12 : decode mRef_begin.2.1 12 = .ok (.putfield 242, 3) := by decide +kernel
theorem dRef_begin_15 : decode mRef_begin.2.1 15 = .ok (.aload_n 0, 1) := by decide +kernel
theorem dRef_begin_16 : decode mRef_begin.2.1 16 = .ok (.iconst 0, 1) := by decide +kernel
theorem dRef_begin_17 : decode mRef_begin.2.1 17 = .ok (.putfield 248, 3) := by decide +kernel
theorem dRef_begin_20 : decode mRef_begin.2.1 20 = .ok (.aload_n 0, 1) := by decide +kernel
theorem dRef_begin_21 : decode mRef_begin.2.1 21 = .ok (.iconst 0, 1) := by decide +kernel
theorem dRef_begin_22 : decode mRef_begin.2.1 22 = .ok (.putfield 277, 3) := by decide +kernel
theorem dRef_begin_25 : decode mRef_begin.2.1 25 = .ok (.aload_n 0, 1) := by decide +kernel
theorem dRef_begin_26 : decode mRef_begin.2.1 26 = .ok (.iconst 0, 1) := by decide +kernel
theorem dRef_begin_27 : decode mRef_begin.2.1 27 = .ok (.putfield 245, 3) := by decide +kernel
theorem dRef_begin_30 : decode mRef_begin.2.1 30 = .ok (.aload_n 0, 1) := by decide +kernel
theorem dRef_begin_31 : decode mRef_begin.2.1 31 = .ok (.iconst 0, 1) := by decide +kernel
theorem dRef_begin_32 : decode mRef_begin.2.1 32 = .ok (.putfield 212, 3) := by decide +kernel
theorem dRef_begin_35 : decode mRef_begin.2.1 35 = .ok (.aload_n 0, 1) := by decide +kernel
theorem dRef_begin_36 : decode mRef_begin.2.1 36 = .ok (.iconst 0, 1) := by decide +kernel
theorem dRef_begin_37 : decode mRef_begin.2.1 37 = .ok (.putfield 221, 3) := by decide +kernel
theorem dRef_begin_40 : decode mRef_begin.2.1 40 = .ok (.aload_n 0, 1) := by decide +kernel
theorem dRef_begin_41 : decode mRef_begin.2.1 41 = .ok (.iconst 0, 1) := by decide +kernel
theorem dRef_begin_42 : decode mRef_begin.2.1 42 = .ok (.putfield 227, 3) := by decide +kernel
theorem dRef_begin_45 : decode mRef_begin.2.1 45 = .ok (.aload_n 0, 1) := by decide +kernel
theorem dRef_begin_46 : decode mRef_begin.2.1 46 = .ok (.iconst 0, 1) := by decide +kernel
theorem dRef_begin_47 : decode mRef_begin.2.1 47 = .ok (.putfield 218, 3) := by decide +kernel
theorem dRef_begin_50 : decode mRef_begin.2.1 50 = .ok (.aload_n 0, 1) := by decide +kernel
theorem dRef_begin_51 : decode mRef_begin.2.1 51 = .ok (.iconst 0, 1) := by decide +kernel
theorem dRef_begin_52 : decode mRef_begin.2.1 52 = .ok (.putfield 230, 3) := by decide +kernel
theorem dRef_begin_55 : decode mRef_begin.2.1 55 = .ok (.iconst 0, 1) := by decide +kernel
theorem dRef_begin_56 : decode mRef_begin.2.1 56 = .ok (.istore_n 1, 1) := by decide +kernel
theorem dRef_begin_57 : decode mRef_begin.2.1 57 = .ok (.iload_n 1, 1) := by decide +kernel
theorem dRef_begin_58 : decode mRef_begin.2.1 58 = .ok (.iconst 3, 1) := by decide +kernel
theorem dRef_begin_59 : decode mRef_begin.2.1 59 = .ok (.if_icmp .ge 23, 3) := by decide +kernel
theorem dRef_begin_62 : decode mRef_begin.2.1 62 = .ok (.aload_n 0, 1) := by decide +kernel
theorem dRef_begin_63 : decode mRef_begin.2.1 63 = .ok (.getfield 34, 3) := by decide +kernel
theorem dRef_begin_66 : decode mRef_begin.2.1 66 = .ok (.iload_n 1, 1) := by decide +kernel
theorem dRef_begin_67 : decode mRef_begin.2.1 67 = .ok (.iconst (-1), 1) := by decide +kernel
theorem dRef_begin_68 : decode mRef_begin.2.1 68 = .ok (.iastore, 1) := by decide +kernel
theorem dRef_begin_69 : decode mRef_begin.2.1 69 = .ok (.aload_n 0, 1) := by decide +kernel
theorem dRef_begin_70 : decode mRef_begin.2.1 70 = .ok (.getfield 55, 3) := by decide +kernel
theorem dRef_begin_73 : decode mRef_begin.2.1 73 = .ok (.iload_n 1, 1) := by decide +kernel
theorem dRef_begin_74 : decode mRef_begin.2.1 74 = .ok (.iconst 0, 1) := by decide +kernel
theorem dRef_begin_75 : decode mRef_begin.2.1 75 = .ok (.bastore, 1) := by decide +kernel
theorem dRef_begin_76 : decode mRef_begin.2.1 76 = .ok (.iinc 1 1, 3) := by decide +kernel
theorem dRef_begin_79 : decode mRef_begin.2.1 79 = .ok (.goto (-22), 3) := by decide +kernel
theorem dRef_begin_82 : decode mRef_begin.2.1 82 = .ok (.aload_n 0, 1) := by decide +kernel
theorem dRef_begin_83 : decode mRef_begin.2.1 83 = .ok (.getfield 196, 3) := by decide +kernel
theorem dRef_begin_86 : decode mRef_begin.2.1 86 = .ok (.bipush 8, 2) := by decide +kernel
theorem dRef_begin_88 : decode mRef_begin.2.1 88 = .ok (.if_icmp .lt 7, 3) := by decide +kernel
theorem dRef_begin_91 : decode mRef_begin.2.1 91 = .ok (.iconst 1, 1) := by decide +kernel
theorem dRef_begin_92 : decode mRef_begin.2.1 92 = .ok (.goto 4, 3) := by decide +kernel
theorem dRef_begin_95 : decode mRef_begin.2.1 95 = .ok (.iconst 0, 1) := by decide +kernel
theorem dRef_begin_96 : decode mRef_begin.2.1 96 = .ok (.istore_n 1, 1) := by decide +kernel
theorem dRef_begin_97 : decode mRef_begin.2.1 97 = .ok (.iconst 0, 1) := by decide +kernel
theorem dRef_begin_98 : decode mRef_begin.2.1 98 = .ok (.istore_n 2, 1) := by decide +kernel
theorem dRef_begin_99 : decode mRef_begin.2.1 99 = .ok (.iload_n 2, 1) := by decide +kernel
theorem dRef_begin_100 : decode mRef_begin.2.1 100 = .ok (.bipush 8, 2) := by decide +kernel
theorem dRef_begin_102 : decode mRef_begin.2.1 102 = .ok (.if_icmp .ge 32, 3) := by decide +kernel
theorem dRef_begin_105 : decode mRef_begin.2.1 105 = .ok (.iload_n 1, 1) := by decide +kernel
theorem dRef_begin_106 : decode mRef_begin.2.1 106 = .ok (.ifCond .eq 28, 3) := by decide +kernel
theorem dRef_begin_109 : decode mRef_begin.2.1 109 = .ok (.aload_n 0, 1) := by decide +kernel
theorem dRef_begin_110 : decode mRef_begin.2.1 110 = .ok (.getfield 49, 3) := by decide +kernel
theorem dRef_begin_113 : decode mRef_begin.2.1 113 = .ok (.iload_n 2, 1) := by decide +kernel
theorem dRef_begin_114 : decode mRef_begin.2.1 114 = .ok (.iaload, 1) := by decide +kernel
theorem dRef_begin_115 : decode mRef_begin.2.1 115 = .ok (.iload_n 2, 1) := by decide +kernel
theorem dRef_begin_116 : decode mRef_begin.2.1 116 = .ok (.invokestatic 182, 3) := by decide +kernel
theorem dRef_begin_119 : decode mRef_begin.2.1 119 = .ok (.if_icmp .ne 7, 3) := by decide +kernel
theorem dRef_begin_122 : decode mRef_begin.2.1 122 = .ok (.iconst 1, 1) := by decide +kernel
theorem dRef_begin_123 : decode mRef_begin.2.1 123 = .ok (.goto 4, 3) := by decide +kernel
theorem dRef_begin_126 : decode mRef_begin.2.1 126 = .ok (.iconst 0, 1) := by decide +kernel
theorem dRef_begin_127 : decode mRef_begin.2.1 127 = .ok (.istore_n 1, 1) := by decide +kernel
theorem dRef_begin_128 : decode mRef_begin.2.1 128 = .ok (.iinc 2 1, 3) := by decide +kernel
theorem dRef_begin_131 : decode mRef_begin.2.1 131 = .ok (.goto (-32), 3) := by decide +kernel
theorem dRef_begin_134 : decode mRef_begin.2.1 134 = .ok (.aload_n 0, 1) := by decide +kernel
theorem dRef_begin_135 : decode mRef_begin.2.1 135 = .ok (.iload_n 1, 1) := by decide +kernel
theorem dRef_begin_136 : decode mRef_begin.2.1 136 = .ok (.ifCond .ne 7, 3) := by decide +kernel
theorem dRef_begin_139 : decode mRef_begin.2.1 139 = .ok (.iconst 1, 1) := by decide +kernel
theorem dRef_begin_140 : decode mRef_begin.2.1 140 = .ok (.goto 4, 3) := by decide +kernel
theorem dRef_begin_143 : decode mRef_begin.2.1 143 = .ok (.iconst 0, 1) := by decide +kernel
theorem dRef_begin_144 : decode mRef_begin.2.1 144 = .ok (.iconst 1, 1) := by decide +kernel
theorem dRef_begin_145 : decode mRef_begin.2.1 145 = .ok (.iconst 0, 1) := by decide +kernel
theorem dRef_begin_146 : decode mRef_begin.2.1 146 = .ok (.invokevirtual 280, 3) := by decide +kernel
theorem dRef_begin_149 : decode mRef_begin.2.1 149 = .ok (.return_, 1) := by decide +kernel
theorem dRef_chunk_0 : decode mRef_chunk.2.1 0 = .ok (.aload_n 0, 1) := by decide +kernel
theorem dRef_chunk_1 : decode mRef_chunk.2.1 1 = .ok (.aload_n 0, 1) := by decide +kernel
theorem dRef_chunk_2 : decode mRef_chunk.2.1 2 = .ok (.getfield 196, 3) := by decide +kernel
theorem dRef_chunk_5 : decode mRef_chunk.2.1 5 = .ok (.iload_n 1, 1) := by decide +kernel
theorem dRef_chunk_6 : decode mRef_chunk.2.1 6 = .ok (.isub, 1) := by decide +kernel
theorem dRef_chunk_7 : decode mRef_chunk.2.1 7 = .ok (.bipush 12, 2) := by decide +kernel
theorem dRef_chunk_9 : decode mRef_chunk.2.1 9 = .ok (.if_icmp .ge 7, 3) := by decide +kernel
theorem dRef_chunk_12 : decode mRef_chunk.2.1 12 = .ok (.iconst 1, 1) := by decide +kernel
theorem dRef_chunk_13 : decode mRef_chunk.2.1 13 = .ok (.goto 4, 3) := by decide +kernel
theorem dRef_chunk_16 : decode mRef_chunk.2.1 16 = .ok (.iconst 0, 1) := by decide +kernel
theorem dRef_chunk_17 : decode mRef_chunk.2.1 17 = .ok (.iconst 1, 1) := by decide +kernel
theorem dRef_chunk_18 : decode mRef_chunk.2.1 18 = .ok (.iload_n 1, 1) := by decide +kernel
theorem dRef_chunk_19 : decode mRef_chunk.2.1 19 = .ok (.invokevirtual 280, 3) := by decide +kernel
theorem dRef_chunk_22 : decode mRef_chunk.2.1 22 = .ok (.aload_n 0, 1) := by decide +kernel
theorem dRef_chunk_23 : decode mRef_chunk.2.1 23 = .ok (.getfield 206, 3) := by decide +kernel
theorem dRef_chunk_26 : decode mRef_chunk.2.1 26 = .ok (.ifCond .le 5, 3) := by decide +kernel
theorem dRef_chunk_29 : decode mRef_chunk.2.1 29 = .ok (.iconst 0, 1) := by decide +kernel
theorem dRef_chunk_30 : decode mRef_chunk.2.1 30 = .ok (.ireturn, 1) := by decide +kernel
theorem dRef_chunk_31 : decode mRef_chunk.2.1 31 = .ok (.aload_n 0, 1) := by decide +kernel
theorem dRef_chunk_32 : decode mRef_chunk.2.1 32 = .ok (.getfield 49, 3) := by decide +kernel
theorem dRef_chunk_35 : decode mRef_chunk.2.1 35 = .ok (.iload_n 1, 1) := by decide +kernel
theorem dRef_chunk_36 : decode mRef_chunk.2.1 36 = .ok (.invokestatic 199, 3) := by decide +kernel
theorem dRef_chunk_39 : decode mRef_chunk.2.1 39 = .ok (.istore_n 2, 1) := by decide +kernel
theorem dRef_chunk_40 : decode mRef_chunk.2.1 40 = .ok (.aload_n 0, 1) := by decide +kernel
theorem dRef_chunk_41 : decode mRef_chunk.2.1 41 = .ok (.iload_n 2, 1) := by decide +kernel
theorem dRef_chunk_42 : decode mRef_chunk.2.1 42 = .ok (.ifCond .lt 10, 3) := by decide +kernel
theorem dRef_chunk_45 : decode mRef_chunk.2.1 45 = .ok (.iload_n 2, 1) := by decide +kernel
theorem dRef_chunk_46 : decode mRef_chunk.2.1 46 = .ok (.sipush 255, 3) := by decide +kernel
theorem dRef_chunk_49 : decode mRef_chunk.2.1 49 = .ok (.if_icmp .le 7, 3) := by decide +kernel
theorem dRef_chunk_52 : decode mRef_chunk.2.1 52 = .ok (.iconst 1, 1) := by decide +kernel
theorem dRef_chunk_53 : decode mRef_chunk.2.1 53 = .ok (.goto 4, 3) := by decide +kernel
theorem dRef_chunk_56 : decode mRef_chunk.2.1 56 = .ok (.iconst 0, 1) := by decide +kernel
theorem dRef_chunk_57 : decode mRef_chunk.2.1 57 = .ok (.iconst 2, 1) := by decide +kernel
theorem dRef_chunk_58 : decode mRef_chunk.2.1 58 = .ok (.iload_n 1, 1) := by decide +kernel
theorem dRef_chunk_59 : decode mRef_chunk.2.1 59 = .ok (.invokevirtual 280, 3) := by decide +kernel
theorem dRef_chunk_62 : decode mRef_chunk.2.1 62 = .ok (.aload_n 0, 1) := by decide +kernel
theorem dRef_chunk_63 : decode mRef_chunk.2.1 63 = .ok (.aload_n 0, 1) := by decide +kernel
theorem dRef_chunk_64 : decode mRef_chunk.2.1 64 = .ok (.getfield 206, 3) := by decide +kernel
theorem dRef_chunk_67 : decode mRef_chunk.2.1 67 = .ok (.ifCond .ne 20, 3) := by decide +kernel
theorem dRef_chunk_70 : decode mRef_chunk.2.1 70 = .ok (.aload_n 0, 1) := by decide +kernel
theorem dRef_chunk_71 : decode mRef_chunk.2.1 71 = .ok (.getfield 196, 3) := by decide +kernel
theorem dRef_chunk_74 : decode mRef_chunk.2.1 74 = .ok (.iload_n 1, 1) := by decide +kernel
theorem dRef_chunk_75 : decode mRef_chunk.2.1 75 = .ok (.isub, 1) := by decide +kernel
theorem dRef_chunk_76 : decode mRef_chunk.2.1 76 = .ok (.bipush 12, 2) := by decide +kernel
theorem dRef_chunk_78 : decode mRef_chunk.2.1 78 = .ok (.iload_n 2, 1) := by decide +kernel
theorem dRef_chunk_79 : decode mRef_chunk.2.1 79 = .ok (.iadd, 1) := by decide +kernel
theorem dRef_chunk_80 : decode mRef_chunk.2.1 80 = .ok (.if_icmp .ge 7, 3) := by decide +kernel
theorem dRef_chunk_83 : decode mRef_chunk.2.1 83 = .ok (.iconst 1, 1) := by decide +kernel
theorem dRef_chunk_84 : decode mRef_chunk.2.1 84 = .ok (.goto 4, 3) := by decide +kernel
theorem dRef_chunk_87 : decode mRef_chunk.2.1 87 = .ok (.iconst 0, 1) := by decide +kernel
theorem dRef_chunk_88 : decode mRef_chunk.2.1 88 = .ok (.iconst 1, 1) := by decide +kernel
theorem dRef_chunk_89 : decode mRef_chunk.2.1 89 = .ok (.iload_n 1, 1) := by decide +kernel
theorem dRef_chunk_90 : decode mRef_chunk.2.1 90 = .ok (.invokevirtual 280, 3) := by decide +kernel
theorem dRef_chunk_93 : decode mRef_chunk.2.1 93 = .ok (.aload_n 0, 1) := by decide +kernel
theorem dRef_chunk_94 : decode mRef_chunk.2.1 94 = .ok (.getfield 49, 3) := by decide +kernel
theorem dRef_chunk_97 : decode mRef_chunk.2.1 97 = .ok (.iload_n 1, 1) := by decide +kernel
theorem dRef_chunk_98 : decode mRef_chunk.2.1 98 = .ok (.iconst 4, 1) := by decide +kernel
theorem dRef_chunk_99 : decode mRef_chunk.2.1 99 = .ok (.iadd, 1) := by decide +kernel
theorem dRef_chunk_100 : decode mRef_chunk.2.1 100 = .ok (.invokestatic 199, 3) := by decide +kernel
theorem dRef_chunk_103 : decode mRef_chunk.2.1 103 = .ok (.istore_n 3, 1) := by decide +kernel
theorem dRef_chunk_104 : decode mRef_chunk.2.1 104 = .ok (.aload_n 0, 1) := by decide +kernel
theorem dRef_chunk_105 : decode mRef_chunk.2.1 105 = .ok (.iload_n 3, 1) := by decide +kernel
theorem dRef_chunk_106 : decode mRef_chunk.2.1 106 = .ok (.invokestatic 121, 3) := by decide +kernel
theorem dRef_chunk_109 : decode mRef_chunk.2.1 109 = .ok (.ifCond .ne 7, 3) := by decide +kernel
theorem dRef_chunk_112 : decode mRef_chunk.2.1 112 = .ok (.iconst 1, 1) := by decide +kernel
theorem dRef_chunk_113 : decode mRef_chunk.2.1 113 = .ok (.goto 4, 3) := by decide +kernel
theorem dRef_chunk_116 : decode mRef_chunk.2.1 116 = .ok (.iconst 0, 1) := by decide +kernel
theorem dRef_chunk_117 : decode mRef_chunk.2.1 117 = .ok (.iconst 3, 1) := by decide +kernel
theorem dRef_chunk_118 : decode mRef_chunk.2.1 118 = .ok (.iload_n 1, 1) := by decide +kernel
theorem dRef_chunk_119 : decode mRef_chunk.2.1 119 = .ok (.invokevirtual 280, 3) := by decide +kernel
theorem dRef_chunk_122 : decode mRef_chunk.2.1 122 = .ok (.aload_n 0, 1) := by decide +kernel
theorem dRef_chunk_123 : decode mRef_chunk.2.1 123 = .ok (.getfield 206, 3) := by decide +kernel
theorem dRef_chunk_126 : decode mRef_chunk.2.1 126 = .ok (.ifCond .le 5, 3) := by decide +kernel
theorem dRef_chunk_129 : decode mRef_chunk.2.1 129 = .ok (.iconst 0, 1) := by decide +kernel
theorem dRef_chunk_130 : decode mRef_chunk.2.1 130 = .ok (.ireturn, 1) := by decide +kernel
theorem dRef_chunk_131 : decode mRef_chunk.2.1 131 = .ok (.aload_n 0, 1) := by decide +kernel
theorem dRef_chunk_132 : decode mRef_chunk.2.1 132 = .ok (.getfield 49, 3) := by decide +kernel
theorem dRef_chunk_135 : decode mRef_chunk.2.1 135 = .ok (.iload_n 1, 1) := by decide +kernel
theorem dRef_chunk_136 : decode mRef_chunk.2.1 136 = .ok (.bipush 8, 2) := by decide +kernel
theorem dRef_chunk_138 : decode mRef_chunk.2.1 138 = .ok (.iadd, 1) := by decide +kernel
theorem dRef_chunk_139 : decode mRef_chunk.2.1 139 = .ok (.iload_n 2, 1) := by decide +kernel
theorem dRef_chunk_140 : decode mRef_chunk.2.1 140 = .ok (.iadd, 1) := by decide +kernel
theorem dRef_chunk_141 : decode mRef_chunk.2.1 141 = .ok (.invokestatic 199, 3) := by decide +kernel
theorem dRef_chunk_144 : decode mRef_chunk.2.1 144 = .ok (.aload_n 0, 1) := by decide +kernel
theorem dRef_chunk_145 : decode mRef_chunk.2.1 145 = .ok (.getfield 49, 3) := by decide +kernel
theorem dRef_chunk_148 : decode mRef_chunk.2.1 148 = .ok (.iload_n 1, 1) := by decide +kernel
theorem dRef_chunk_149 : decode mRef_chunk.2.1 149 = .ok (.iconst 4, 1) := by decide +kernel
theorem dRef_chunk_150 : decode mRef_chunk.2.1 150 = .ok (.iadd, 1) := by decide +kernel
theorem dRef_chunk_151 : decode mRef_chunk.2.1 151 = .ok (.iload_n 1, 1) := by decide +kernel
theorem dRef_chunk_152 : decode mRef_chunk.2.1 152 = .ok (.bipush 8, 2) := by decide +kernel
theorem dRef_chunk_154 : decode mRef_chunk.2.1 154 = .ok (.iadd, 1) := by decide +kernel
theorem dRef_chunk_155 : decode mRef_chunk.2.1 155 = .ok (.iload_n 2, 1) := by decide +kernel
theorem dRef_chunk_156 : decode mRef_chunk.2.1 156 = .ok (.iadd, 1) := by decide +kernel
theorem dRef_chunk_157 : decode mRef_chunk.2.1 157 = .ok (.invokestatic 160, 3) := by decide +kernel
theorem dRef_chunk_160 : decode mRef_chunk.2.1 160 = .ok (.if_icmp .eq 7, 3) := by decide +kernel
theorem dRef_chunk_163 : decode mRef_chunk.2.1 163 = .ok (.iconst 1, 1) := by decide +kernel
theorem dRef_chunk_164 : decode mRef_chunk.2.1 164 = .ok (.goto 4, 3) := by decide +kernel
theorem dRef_chunk_167 : decode mRef_chunk.2.1 167 = .ok (.iconst 0, 1) := by decide +kernel
theorem dRef_chunk_168 : decode mRef_chunk.2.1 168 = .ok (.istore 4, 2) := by decide +kernel
theorem dRef_chunk_170 : decode mRef_chunk.2.1 170 = .ok (.iload_n 3, 1) := by decide +kernel
theorem dRef_chunk_171 : decode mRef_chunk.2.1 171 = .ok (.iconst 0, 1) := by decide +kernel
theorem dRef_chunk_172 : decode mRef_chunk.2.1 172 = .ok (.invokestatic 111, 3) := by decide +kernel
theorem dRef_chunk_175 : decode mRef_chunk.2.1 175 = .ok (.invokestatic 115, 3) := by decide +kernel
theorem dRef_chunk_178 : decode mRef_chunk.2.1 178 = .ok (.istore 5, 2) := by decide +kernel
theorem dRef_chunk_180 : decode mRef_chunk.2.1 180 = .ok (.aload_n 0, 1) := by decide +kernel
theorem dRef_chunk_181 : decode mRef_chunk.2.1 181 = .ok (.iload 4, 2) := by decide +kernel
theorem dRef_chunk_183 : decode mRef_chunk.2.1 183 = .ok (.ifCond .eq 12, 3) := by decide +kernel
theorem dRef_chunk_186 : decode mRef_chunk.2.1 186 = .ok (.iload 5, 2) := by decide +kernel
theorem dRef_chunk_188 : decode mRef_chunk.2.1 188 = .ok (.ifCond .eq 7, 3) := by decide +kernel
theorem dRef_chunk_191 : decode mRef_chunk.2.1 191 = .ok (.iconst 1, 1) := by decide +kernel
theorem dRef_chunk_192 : decode mRef_chunk.2.1 192 = .ok (.goto 4, 3) := by decide +kernel
theorem dRef_chunk_195 : decode mRef_chunk.2.1 195 = .ok (.iconst 0, 1) := by decide +kernel
theorem dRef_chunk_196 : decode mRef_chunk.2.1 196 = .ok (.iconst 4, 1) := by decide +kernel
theorem dRef_chunk_197 : decode mRef_chunk.2.1 197 = .ok (.iload_n 1, 1) := by decide +kernel
theorem dRef_chunk_198 : decode mRef_chunk.2.1 198 = .ok (.invokevirtual 280, 3) := by decide +kernel
theorem dRef_chunk_201 : decode mRef_chunk.2.1 201 = .ok (.iload 4, 2) := by decide +kernel
theorem dRef_chunk_203 : decode mRef_chunk.2.1 203 = .ok (.ifCond .eq 47, 3) := by decide +kernel
theorem dRef_chunk_206 : decode mRef_chunk.2.1 206 = .ok (.aload_n 0, 1) := by decide +kernel
theorem dRef_chunk_207 : decode mRef_chunk.2.1 207 = .ok (.dup, 1) := by decide +kernel
theorem dRef_chunk_208 : decode mRef_chunk.2.1 208 = .ok (.getfield 277, 3) := by decide +kernel
theorem dRef_chunk_211 : decode mRef_chunk.2.1 211 = .ok (.iload 5, 2) := by decide +kernel
theorem dRef_chunk_213 : decode mRef_chunk.2.1 213 = .ok (.ifCond .eq 7, 3) := by decide +kernel
theorem dRef_chunk_216 : decode mRef_chunk.2.1 216 = .ok (.iconst 0, 1) := by decide +kernel
theorem dRef_chunk_217 : decode mRef_chunk.2.1 217 = .ok (.goto 4, 3) := by decide +kernel
theorem dRef_chunk_220 : decode mRef_chunk.2.1 220 = .ok (.iconst 1, 1) := by decide +kernel
theorem dRef_chunk_221 : decode mRef_chunk.2.1 221 = .ok (.iadd, 1) := by decide +kernel
theorem dRef_chunk_222 : decode mRef_chunk.2.1 222 = .ok (.putfield 277, 3) := by decide +kernel
theorem dRef_chunk_225 : decode mRef_chunk.2.1 225 = .ok (.aload_n 0, 1) := by decide +kernel
theorem dRef_chunk_226 : decode mRef_chunk.2.1 226 = .ok (.aload_n 0, 1) := by decide +kernel
theorem dRef_chunk_227 : decode mRef_chunk.2.1 227 = .ok (.getfield 230, 3) := by decide +kernel
theorem dRef_chunk_230 : decode mRef_chunk.2.1 230 = .ok (.ifCond .ne 10, 3) := by decide +kernel
theorem dRef_chunk_233 : decode mRef_chunk.2.1 233 = .ok (.aload_n 0, 1) := by decide +kernel
theorem dRef_chunk_234 : decode mRef_chunk.2.1 234 = .ok (.getfield 218, 3) := by decide +kernel
theorem dRef_chunk_237 : decode mRef_chunk.2.1 237 = .ok (.ifCond .eq 7, 3) := by decide +kernel
theorem dRef_chunk_240 : decode mRef_chunk.2.1 240 = .ok (.iconst 1, 1) := by decide +kernel
theorem dRef_chunk_241 : decode mRef_chunk.2.1 241 = .ok (.goto 4, 3) := by decide +kernel
theorem dRef_chunk_244 : decode mRef_chunk.2.1 244 = .ok (.iconst 0, 1) := by decide +kernel
theorem dRef_chunk_245 : decode mRef_chunk.2.1 245 = .ok (.putfield 230, 3) := by decide +kernel
theorem dRef_chunk_248 : decode mRef_chunk.2.1 248 = .ok (.iconst 0, 1) := by decide +kernel
theorem dRef_chunk_249 : decode mRef_chunk.2.1 249 = .ok (.ireturn, 1) := by decide +kernel
theorem dRef_chunk_250 : decode mRef_chunk.2.1 250 = .ok (.aload_n 0, 1) := by decide +kernel
theorem dRef_chunk_251 : decode mRef_chunk.2.1 251 = .ok (.aload_n 0, 1) := by decide +kernel
theorem dRef_chunk_252 : decode mRef_chunk.2.1 252 = .ok (.iload_n 3, 1) := by decide +kernel
theorem dRef_chunk_253 : decode mRef_chunk.2.1 253 = .ok (.invokevirtual 284, 3) := by decide +kernel
theorem dRef_chunk_256 : decode mRef_chunk.2.1 256 = .ok (.iconst 5, 1) := by decide +kernel
theorem dRef_chunk_257 : decode mRef_chunk.2.1 257 = .ok (.iload_n 1, 1) := by decide +kernel
theorem dRef_chunk_258 : decode mRef_chunk.2.1 258 = .ok (.invokevirtual 280, 3) := by decide +kernel
theorem dRef_chunk_261 : decode mRef_chunk.2.1 261 = .ok (.aload_n 0, 1) := by decide +kernel
theorem dRef_chunk_262 : decode mRef_chunk.2.1 262 = .ok (.iload 5, 2) := by decide +kernel
theorem dRef_chunk_264 : decode mRef_chunk.2.1 264 = .ok (.ifCond .eq 31, 3) := by decide +kernel
theorem dRef_chunk_267 : decode mRef_chunk.2.1 267 = .ok (.iload_n 3, 1) := by decide +kernel
theorem dRef_chunk_268 : decode mRef_chunk.2.1 268 = .ok (.ldc 185, 2) := by decide +kernel
theorem dRef_chunk_270 : decode mRef_chunk.2.1 270 = .ok (.if_icmp .eq 25, 3) := by decide +kernel
theorem dRef_chunk_273 : decode mRef_chunk.2.1 273 = .ok (.iload_n 3, 1) := by decide +kernel
theorem dRef_chunk_274 : decode mRef_chunk.2.1 274 = .ok (.ldc 173, 2) := by decide +kernel
theorem dRef_chunk_276 : decode mRef_chunk.2.1 276 = .ok (.if_icmp .eq 19, 3) := by decide +kernel
theorem dRef_chunk_279 : decode mRef_chunk.2.1 279 = .ok (.iload_n 3, 1) := by decide +kernel
theorem dRef_chunk_280 : decode mRef_chunk.2.1 280 = .ok (.ldc 178, 2) := by decide +kernel
theorem dRef_chunk_282 : decode mRef_chunk.2.1 282 = .ok (.if_icmp .eq 13, 3) := by decide +kernel
theorem dRef_chunk_285 : decode mRef_chunk.2.1 285 = .ok (.iload_n 3, 1) := by decide +kernel
theorem dRef_chunk_286 : decode mRef_chunk.2.1 286 = .ok (.ldc 195, 2) := by decide +kernel
theorem dRef_chunk_288 : decode mRef_chunk.2.1 288 = .ok (.if_icmp .eq 7, 3) := by decide +kernel
theorem dRef_chunk_291 : decode mRef_chunk.2.1 291 = .ok (.iconst 1, 1) := by decide +kernel
theorem dRef_chunk_292 : decode mRef_chunk.2.1 292 = .ok (.goto 4, 3) := by decide +kernel
theorem dRef_chunk_295 : decode mRef_chunk.2.1 295 = .ok (.iconst 0, 1) := by decide +kernel
theorem dRef_chunk_296 : decode mRef_chunk.2.1 296 = .ok (.bipush 6, 2) := by decide +kernel
theorem dRef_chunk_298 : decode mRef_chunk.2.1 298 = .ok (.iload_n 1, 1) := by decide +kernel
theorem dRef_chunk_299 : decode mRef_chunk.2.1 299 = .ok (.invokevirtual 280, 3) := by decide +kernel
theorem dRef_chunk_302 : decode mRef_chunk.2.1 302 = .ok (.aload_n 0, 1) := by decide +kernel
theorem dRef_chunk_303 : decode mRef_chunk.2.1 303 = .ok (.aload_n 0, 1) := by decide +kernel
theorem dRef_chunk_304 : decode mRef_chunk.2.1 304 = .ok (.getfield 206, 3) := by decide +kernel
theorem dRef_chunk_307 : decode mRef_chunk.2.1 307 = .ok (.ifCond .ne 20, 3) := by decide +kernel
theorem dRef_chunk_310 : decode mRef_chunk.2.1 310 = .ok (.aload_n 0, 1) := by decide +kernel
theorem dRef_chunk_311 : decode mRef_chunk.2.1 311 = .ok (.iload_n 3, 1) := by decide +kernel
theorem dRef_chunk_312 : decode mRef_chunk.2.1 312 = .ok (.iload_n 1, 1) := by decide +kernel
theorem dRef_chunk_313 : decode mRef_chunk.2.1 313 = .ok (.bipush 8, 2) := by decide +kernel
theorem dRef_chunk_315 : decode mRef_chunk.2.1 315 = .ok (.iadd, 1) := by decide +kernel
theorem dRef_chunk_316 : decode mRef_chunk.2.1 316 = .ok (.iload_n 2, 1) := by decide +kernel
theorem dRef_chunk_317 : decode mRef_chunk.2.1 317 = .ok (.invokevirtual 287, 3) := by decide +kernel
theorem dRef_chunk_320 : decode mRef_chunk.2.1 320 = .ok (.ifCond .ne 7, 3) := by decide +kernel
theorem dRef_chunk_323 : decode mRef_chunk.2.1 323 = .ok (.iconst 1, 1) := by decide +kernel
theorem dRef_chunk_324 : decode mRef_chunk.2.1 324 = .ok (.goto 4, 3) := by decide +kernel
theorem dRef_chunk_327 : decode mRef_chunk.2.1 327 = .ok (.iconst 0, 1) := by decide +kernel
theorem dRef_chunk_328 : decode mRef_chunk.2.1 328 = .ok (.bipush 7, 2) := by decide +kernel
theorem dRef_chunk_330 : decode mRef_chunk.2.1 330 = .ok (.iload_n 1, 1) := by decide +kernel
theorem dRef_chunk_331 : decode mRef_chunk.2.1 331 = .ok (.invokevirtual 280, 3) := by decide +kernel
theorem dRef_chunk_334 : decode mRef_chunk.2.1 334 = .ok (.aload_n 0, 1) := by decide +kernel
theorem dRef_chunk_335 : decode mRef_chunk.2.1 335 = .ok (.aload_n 0, 1) := by decide +kernel
theorem dRef_chunk_336 : decode mRef_chunk.2.1 336 = .ok (.getfield 230, 3) := by decide +kernel
theorem dRef_chunk_339 : decode mRef_chunk.2.1 339 = .ok (.ifCond .ne 16, 3) := by decide +kernel
theorem dRef_chunk_342 : decode mRef_chunk.2.1 342 = .ok (.aload_n 0, 1) := by decide +kernel
theorem dRef_chunk_343 : decode mRef_chunk.2.1 343 = .ok (.getfield 218, 3) := by decide +kernel
theorem dRef_chunk_346 : decode mRef_chunk.2.1 346 = .ok (.ifCond .eq 13, 3) := by decide +kernel
theorem dRef_chunk_349 : decode mRef_chunk.2.1 349 = .ok (.iload_n 3, 1) := by decide +kernel
theorem dRef_chunk_350 : decode mRef_chunk.2.1 350 = .ok (.ldc 178, 2) := by decide +kernel
theorem dRef_chunk_352 : decode mRef_chunk.2.1 352 = .ok (.if_icmp .eq 7, 3) := by decide +kernel
theorem dRef_chunk_355 : decode mRef_chunk.2.1 355 = .ok (.iconst 1, 1) := by decide +kernel
theorem dRef_chunk_356 : decode mRef_chunk.2.1 356 = .ok (.goto 4, 3) := by decide +kernel
theorem dRef_chunk_359 : decode mRef_chunk.2.1 359 = .ok (.iconst 0, 1) := by decide +kernel
theorem dRef_chunk_360 : decode mRef_chunk.2.1 360 = .ok (.putfield 230, 3) := by decide +kernel
theorem dRef_chunk_363 : decode mRef_chunk.2.1 363 = .ok (.aload_n 0, 1) := by decide +kernel
theorem dRef_chunk_364 : decode mRef_chunk.2.1 364 = .ok (.aload_n 0, 1) := by decide +kernel
theorem dRef_chunk_365 : decode mRef_chunk.2.1 365 = .ok (.getfield 206, 3) := by decide +kernel
theorem dRef_chunk_368 : decode mRef_chunk.2.1 368 = .ok (.ifCond .ne 20, 3) := by decide +kernel
theorem dRef_chunk_371 : decode mRef_chunk.2.1 371 = .ok (.iload_n 3, 1) := by decide +kernel
theorem dRef_chunk_372 : decode mRef_chunk.2.1 372 = .ok (.ldc 195, 2) := by decide +kernel
theorem dRef_chunk_374 : decode mRef_chunk.2.1 374 = .ok (.if_icmp .ne 14, 3) := by decide +kernel
theorem dRef_chunk_377 : decode mRef_chunk.2.1 377 = .ok (.aload_n 0, 1) := by decide +kernel
theorem dRef_chunk_378 : decode mRef_chunk.2.1 378 = .ok (.invokevirtual 290, 3) := by decide +kernel
theorem dRef_chunk_381 : decode mRef_chunk.2.1 381 = .ok (.ifCond .ne 7, 3) := by decide +kernel
theorem dRef_chunk_384 : decode mRef_chunk.2.1 384 = .ok (.iconst 1, 1) := by decide +kernel
theorem dRef_chunk_385 : decode mRef_chunk.2.1 385 = .ok (.goto 4, 3) := by decide +kernel
theorem dRef_chunk_388 : decode mRef_chunk.2.1 388 = .ok (.iconst 0, 1) := by decide +kernel
theorem dRef_chunk_389 : decode mRef_chunk.2.1 389 = .ok (.bipush 8, 2) := by decide +kernel
theorem dRef_chunk_391 : decode mRef_chunk.2.1 391 = .ok (.iload_n 1, 1) := by decide +kernel
theorem dRef_chunk_392 : decode mRef_chunk.2.1 392 = .ok (.invokevirtual 280, 3) := by decide +kernel
theorem dRef_chunk_395 : decode mRef_chunk.2.1 395 = .ok (.iload_n 3, 1) := by decide +kernel
theorem dRef_chunk_396 : decode mRef_chunk.2.1 396 = .ok (.ldc 195, 2) := by decide +kernel
theorem dRef_chunk_398 : decode mRef_chunk.2.1 398 = .ok (.if_icmp .ne 7, 3) := by decide +kernel
theorem dRef_chunk_401 : decode mRef_chunk.2.1 401 = .ok (.iconst 2, 1) := by decide +kernel
theorem dRef_chunk_402 : decode mRef_chunk.2.1 402 = .ok (.goto 4, 3) := by decide +kernel
theorem dRef_chunk_405 : decode mRef_chunk.2.1 405 = .ok (.iconst 1, 1) := by decide +kernel
theorem dRef_chunk_406 : decode mRef_chunk.2.1 406 = .ok (.ireturn, 1) := by decide +kernel
theorem dRef_read_0 : decode mRef_read.2.1 0 = .ok (.aload_n 0, 1) := by decide +kernel
theorem dRef_read_1 : decode mRef_read.2.1 1 = .ok (.iconst 0, 1) := by decide +kernel
theorem dRef_read_2 : decode mRef_read.2.1 2 = .ok (.putfield 59, 3) := by decide +kernel
theorem dRef_read_5 : decode mRef_read.2.1 5 = .ok (.aload_n 0, 1) := by decide +kernel
theorem dRef_read_6 : decode mRef_read.2.1 6 = .ok (.invokevirtual 293, 3) := by decide +kernel
theorem dRef_read_9 : decode mRef_read.2.1 9 = .ok (.bipush 8, 2) := by decide +kernel
theorem dRef_read_11 : decode mRef_read.2.1 11 = .ok (.istore_n 1, 1) := by decide +kernel
theorem dRef_read_12 : decode mRef_read.2.1 12 = .ok (.iconst 0, 1) := by decide +kernel
theorem dRef_read_13 : decode mRef_read.2.1 13 = .ok (.istore_n 2, 1) := by decide +kernel
theorem dRef_read_14 : decode mRef_read.2.1 14 = .ok (.iconst 0, 1) := by decide +kernel
theorem dRef_read_15 : decode mRef_read.2.1 15 = .ok (.istore_n 3, 1) := by decide +kernel
theorem dRef_read_16 : decode mRef_read.2.1 16 = .ok (.aload_n 0, 1) := by decide +kernel
theorem dRef_read_17 : decode mRef_read.2.1 17 = .ok (.getfield 206, 3) := by decide +kernel
theorem dRef_read_20 : decode mRef_read.2.1 20 = .ok (.ifCond .ne 46, 3) := by decide +kernel
theorem dRef_read_23 : decode mRef_read.2.1 23 = .ok (.iload_n 3, 1) := by decide +kernel
theorem dRef_read_24 : decode mRef_read.2.1 24 = .ok (.iconst 2, 1) := by decide +kernel
theorem dRef_read_25 : decode mRef_read.2.1 25 = .ok (.if_icmp .ge 41, 3) := by decide +kernel
theorem dRef_read_28 : decode mRef_read.2.1 28 = .ok (.aload_n 0, 1) := by decide +kernel
theorem dRef_read_29 : decode mRef_read.2.1 29 = .ok (.iload_n 1, 1) := by decide +kernel
theorem dRef_read_30 : decode mRef_read.2.1 30 = .ok (.invokevirtual 296, 3) := by decide +kernel
theorem dRef_read_33 : decode mRef_read.2.1 33 = .ok (.istore_n 3, 1) := by decide +kernel
theorem dRef_read_34 : decode mRef_read.2.1 34 = .ok (.iload_n 2, 1) := by decide +kernel
theorem dRef_read_35 : decode mRef_read.2.1 35 = .ok (.iload_n 3, 1) := by decide +kernel
theorem dRef_read_36 : decode mRef_read.2.1 36 = .ok (.ifCond .le 7, 3) := by decide +kernel
theorem dRef_read_39 : decode mRef_read.2.1 39 = .ok (.iconst 1, 1) := by decide +kernel
theorem dRef_read_40 : decode mRef_read.2.1 40 = .ok (.goto 4, 3) := by decide +kernel
theorem dRef_read_43 : decode mRef_read.2.1 43 = .ok (.iconst 0, 1) := by decide +kernel
theorem dRef_read_44 : decode mRef_read.2.1 44 = .ok (.iadd, 1) := by decide +kernel
theorem dRef_read_45 : decode mRef_read.2.1 45 = .ok (.istore_n 2, 1) := by decide +kernel
theorem dRef_read_46 : decode mRef_read.2.1 46 = .ok (.aload_n 0, 1) := by decide +kernel
theorem dRef_read_47 : decode mRef_read.2.1 47 = .ok (.getfield 206, 3) := by decide +kernel
theorem dRef_read_50 : decode mRef_read.2.1 50 = .ok (.ifCond .ne 11, 3) := by decide +kernel
theorem dRef_read_53 : decode mRef_read.2.1 53 = .ok (.aload_n 0, 1) := by decide +kernel
theorem dRef_read_54 : decode mRef_read.2.1 54 = .ok (.iload_n 1, 1) := by decide +kernel
theorem dRef_read_55 : decode mRef_read.2.1 55 = .ok (.invokevirtual 203, 3) := by decide +kernel
theorem dRef_read_58 : decode mRef_read.2.1 58 = .ok (.goto 4, 3) := by decide +kernel
theorem dRef_read_61 : decode mRef_read.2.1 61 = .ok (.iload_n 1, 1) := by decide +kernel
theorem dRef_read_62 : decode mRef_read.2.1 62 = .ok (.istore_n 1, 1) := by decide +kernel
theorem dRef_read_63 : decode mRef_read.2.1 63 = .ok (.goto (-47), 3) := by decide +kernel
theorem dRef_read_66 : decode mRef_read.2.1 66 = .ok (.aload_n 0, 1) := by decide +kernel
theorem dRef_read_67 : decode mRef_read.2.1 67 = .ok (.aload_n 0, 1) := by decide +kernel
theorem dRef_read_68 : decode mRef_read.2.1 68 = .ok (.getfield 206, 3) := by decide +kernel
theorem dRef_read_71 : decode mRef_read.2.1 71 = .ok (.ifCond .ne 7, 3) := by decide +kernel
theorem dRef_read_74 : decode mRef_read.2.1 74 = .ok (.iconst 1, 1) := by decide +kernel
theorem dRef_read_75 : decode mRef_read.2.1 75 = .ok (.goto 4, 3) := by decide +kernel
theorem dRef_read_78 : decode mRef_read.2.1 78 = .ok (.iconst 0, 1) := by decide +kernel
theorem dRef_read_79 : decode mRef_read.2.1 79 = .ok (.putfield 274, 3) := by decide +kernel
theorem dRef_read_82 : decode mRef_read.2.1 82 = .ok (.aload_n 0, 1) := by decide +kernel
theorem dRef_read_83 : decode mRef_read.2.1 83 = .ok (.getfield 274, 3) := by decide +kernel
theorem dRef_read_86 : decode mRef_read.2.1 86 = .ok (.ifCond .eq 7, 3) := by decide +kernel
theorem dRef_read_89 : decode mRef_read.2.1 89 = .ok (.iload_n 2, 1) := by decide +kernel
theorem dRef_read_90 : decode mRef_read.2.1 90 = .ok (.goto 9, 3) := by decide +kernel
theorem dRef_read_93 : decode mRef_read.2.1 93 = .ok (.iconst (-1), 1) := by decide +kernel
theorem dRef_read_94 : decode mRef_read.2.1 94 = .ok (.aload_n 0, 1) := by decide +kernel
theorem dRef_read_95 : decode mRef_read.2.1 95 = .ok (.getfield 209, 3) := by decide +kernel
theorem dRef_read_98 : decode mRef_read.2.1 98 = .ok (.isub, 1) := by decide +kernel
theorem dRef_read_99 : decode mRef_read.2.1 99 = .ok (.ireturn, 1) := by decide +kernel
theorem dRef_at_0 : decode mRef_at.2.1 0 = .ok (.aload_n 0, 1) := by decide +kernel
theorem dRef_at_1 : decode mRef_at.2.1 1 = .ok (.aload_n 0, 1) := by decide +kernel
theorem dRef_at_2 : decode mRef_at.2.1 2 = .ok (.getfield 274, 3) := by decide +kernel
theorem dRef_at_5 : decode mRef_at.2.1 5 = .ok (.ifCond .ne 7, 3) := by decide +kernel
theorem dRef_at_8 : decode mRef_at.2.1 8 = .ok (.iconst 1, 1) := by decide +kernel
theorem dRef_at_9 : decode mRef_at.2.1 9 = .ok (.goto 47, 3) := by decide +kernel
theorem dRef_at_12 : decode mRef_at.2.1 12 = .ok (.iload_n 1, 1) := by decide +kernel
theorem dRef_at_13 : decode mRef_at.2.1 13 = .ok (.ifCond .lt 38, 3) := by decide +kernel
theorem dRef_at_16 : decode mRef_at.2.1 16 = .ok (.iload_n 1, 1) := by decide +kernel
theorem dRef_at_17 : decode mRef_at.2.1 17 = .ok (.aload_n 0, 1) := by decide +kernel
theorem dRef_at_18 : decode mRef_at.2.1 18 = .ok (.getfield 233, 3) := by decide +kernel
theorem dRef_at_21 : decode mRef_at.2.1 21 = .ok (.if_icmp .ge 30, 3) := by decide +kernel
theorem dRef_at_24 : decode mRef_at.2.1 24 = .ok (.iload_n 2, 1) := by decide +kernel
theorem dRef_at_25 : decode mRef_at.2.1 25 = .ok (.ifCond .lt 26, 3) := by decide +kernel
theorem dRef_at_28 : decode mRef_at.2.1 28 = .ok (.iload_n 2, 1) := by decide +kernel
theorem dRef_at_29 : decode mRef_at.2.1 29 = .ok (.aload_n 0, 1) := by decide +kernel
theorem dRef_at_30 : decode mRef_at.2.1 30 = .ok (.getfield 236, 3) := by decide +kernel
theorem dRef_at_33 : decode mRef_at.2.1 33 = .ok (.if_icmp .ge 18, 3) := by decide +kernel
theorem dRef_at_36 : decode mRef_at.2.1 36 = .ok (.iload_n 3, 1) := by decide +kernel
theorem dRef_at_37 : decode mRef_at.2.1 37 = .ok (.ifCond .lt 14, 3) := by decide +kernel
theorem dRef_at_40 : decode mRef_at.2.1 40 = .ok (.iload_n 3, 1) := by decide +kernel
theorem dRef_at_41 : decode mRef_at.2.1 41 = .ok (.aload_n 0, 1) := by decide +kernel
theorem dRef_at_42 : decode mRef_at.2.1 42 = .ok (.getfield 224, 3) := by decide +kernel
theorem dRef_at_45 : decode mRef_at.2.1 45 = .ok (.invokestatic 100, 3) := by decide +kernel
theorem dRef_at_48 : decode mRef_at.2.1 48 = .ok (.if_icmp .lt 7, 3) := by decide +kernel
theorem dRef_at_51 : decode mRef_at.2.1 51 = .ok (.iconst 2, 1) := by decide +kernel
theorem dRef_at_52 : decode mRef_at.2.1 52 = .ok (.goto 4, 3) := by decide +kernel
theorem dRef_at_55 : decode mRef_at.2.1 55 = .ok (.iconst 0, 1) := by decide +kernel
theorem dRef_at_56 : decode mRef_at.2.1 56 = .ok (.putfield 59, 3) := by decide +kernel
theorem dRef_at_59 : decode mRef_at.2.1 59 = .ok (.aload_n 0, 1) := by decide +kernel
theorem dRef_at_60 : decode mRef_at.2.1 60 = .ok (.getfield 59, 3) := by decide +kernel
theorem dRef_at_63 : decode mRef_at.2.1 63 = .ok (.ifCond .le 7, 3) := by decide +kernel
theorem dRef_at_66 : decode mRef_at.2.1 66 = .ok (.iconst 0, 1) := by decide +kernel
theorem dRef_at_67 : decode mRef_at.2.1 67 = .ok (.goto 18, 3) := by decide +kernel
theorem dRef_at_70 : decode mRef_at.2.1 70 = .ok (.aload_n 0, 1) := by decide +kernel
theorem dRef_at_71 : decode mRef_at.2.1 71 = .ok (.getfield 28, 3) := by decide +kernel
theorem dRef_at_74 : decode mRef_at.2.1 74 = .ok (.iconst 4, 1) := by decide +kernel
theorem dRef_at_75 : decode mRef_at.2.1 75 = .ok (.bipush 12, 2) := by decide +kernel
theorem dRef_at_77 : decode mRef_at.2.1 77 = .ok (.iload_n 2, 1) := by decide +kernel
theorem dRef_at_78 : decode mRef_at.2.1 78 = .ok (.imul, 1) := by decide +kernel
theorem dRef_at_79 : decode mRef_at.2.1 79 = .ok (.iload_n 1, 1) := by decide +kernel
theorem dRef_at_80 : decode mRef_at.2.1 80 = .ok (.iadd, 1) := by decide +kernel
theorem dRef_at_81 : decode mRef_at.2.1 81 = .ok (.imul, 1) := by decide +kernel
theorem dRef_at_82 : decode mRef_at.2.1 82 = .ok (.iload_n 3, 1) := by decide +kernel
theorem dRef_at_83 : decode mRef_at.2.1 83 = .ok (.iadd, 1) := by decide +kernel
theorem dRef_at_84 : decode mRef_at.2.1 84 = .ok (.iaload, 1) := by decide +kernel
theorem dRef_at_85 : decode mRef_at.2.1 85 = .ok (.ireturn, 1) := by decide +kernel
theorem dRef_found_0 : decode mRef_found.2.1 0 = .ok (.aload_n 0, 1) := by decide +kernel
theorem dRef_found_1 : decode mRef_found.2.1 1 = .ok (.aload_n 0, 1) := by decide +kernel
theorem dRef_found_2 : decode mRef_found.2.1 2 = .ok (.getfield 274, 3) := by decide +kernel
theorem dRef_found_5 : decode mRef_found.2.1 5 = .ok (.ifCond .eq 7, 3) := by decide +kernel
theorem dRef_found_8 : decode mRef_found.2.1 8 = .ok (.iconst 0, 1) := by decide +kernel
theorem dRef_found_9 : decode mRef_found.2.1 9 = .ok (.goto 4, 3) := by decide +kernel
theorem dRef_found_12 : decode mRef_found.2.1 12 = .ok (.iconst 1, 1) := by decide +kernel
theorem dRef_found_13 : decode mRef_found.2.1 13 = .ok (.putfield 59, 3) := by decide +kernel
theorem dRef_found_16 : decode mRef_found.2.1 16 = .ok (.aload_n 0, 1) := by decide +kernel
theorem dRef_found_17 : decode mRef_found.2.1 17 = .ok (.getfield 59, 3) := by decide +kernel
theorem dRef_found_20 : decode mRef_found.2.1 20 = .ok (.ifCond .le 5, 3) := by decide +kernel
theorem dRef_found_23 : decode mRef_found.2.1 23 = .ok (.iconst 0, 1) := by decide +kernel
theorem dRef_found_24 : decode mRef_found.2.1 24 = .ok (.ireturn, 1) := by decide +kernel
theorem dRef_found_25 : decode mRef_found.2.1 25 = .ok (.iload_n 1, 1) := by decide +kernel
theorem dRef_found_26 : decode mRef_found.2.1 26 = .ok (.tableswitch 98 0 9 #[54, 59, 64, 69, 74, 79, 79, 79, 88, 93], 54) := by decide +kernel
theorem dRef_found_80 : decode mRef_found.2.1 80 = .ok (.aload_n 0, 1) := by decide +kernel
theorem dRef_found_81 : decode mRef_found.2.1 81 = .ok (.getfield 233, 3) := by decide +kernel
theorem dRef_found_84 : decode mRef_found.2.1 84 = .ok (.ireturn, 1) := by decide +kernel
theorem dRef_found_85 : decode mRef_found.2.1 85 = .ok (.aload_n 0, 1) := by decide +kernel
theorem dRef_found_86 : decode mRef_found.2.1 86 = .ok (.getfield 236, 3) := by decide +kernel
theorem dRef_found_89 : decode mRef_found.2.1 89 = .ok (.ireturn, 1) := by decide +kernel
theorem dRef_found_90 : decode mRef_found.2.1 90 = .ok (.aload_n 0, 1) := by decide +kernel
theorem dRef_found_91 : decode mRef_found.2.1 91 = .ok (.getfield 239, 3) := by decide +kernel
theorem dRef_found_94 : decode mRef_found.2.1 94 = .ok (.ireturn, 1) := by decide +kernel
theorem dRef_found_95 : decode mRef_found.2.1 95 = .ok (.aload_n 0, 1) := by decide +kernel
theorem dRef_found_96 : decode mRef_found.2.1 96 = .ok (.getfield 224, 3) := by decide +kernel
theorem dRef_found_99 : decode mRef_found.2.1 99 = .ok (.ireturn, 1) := by decide +kernel
theorem dRef_found_100 : decode mRef_found.2.1 100 = .ok (.aload_n 0, 1) := by decide +kernel
theorem dRef_found_101 : decode mRef_found.2.1 101 = .ok (.getfield 242, 3) := by decide +kernel
theorem dRef_found_104 : decode mRef_found.2.1 104 = .ok (.ireturn, 1) := by decide +kernel
theorem dRef_found_105 : decode mRef_found.2.1 105 = .ok (.aload_n 0, 1) := by decide +kernel
theorem dRef_found_106 : decode mRef_found.2.1 106 = .ok (.getfield 34, 3) := by decide +kernel
theorem dRef_found_109 : decode mRef_found.2.1 109 = .ok (.iload_n 1, 1) := by decide +kernel
theorem dRef_found_110 : decode mRef_found.2.1 110 = .ok (.iconst 5, 1) := by decide +kernel
theorem dRef_found_111 : decode mRef_found.2.1 111 = .ok (.isub, 1) := by decide +kernel
theorem dRef_found_112 : decode mRef_found.2.1 112 = .ok (.iaload, 1) := by decide +kernel
theorem dRef_found_113 : decode mRef_found.2.1 113 = .ok (.ireturn, 1) := by decide +kernel
theorem dRef_found_114 : decode mRef_found.2.1 114 = .ok (.aload_n 0, 1) := by decide +kernel
theorem dRef_found_115 : decode mRef_found.2.1 115 = .ok (.getfield 248, 3) := by decide +kernel
theorem dRef_found_118 : decode mRef_found.2.1 118 = .ok (.ireturn, 1) := by decide +kernel
theorem dRef_found_119 : decode mRef_found.2.1 119 = .ok (.aload_n 0, 1) := by decide +kernel
theorem dRef_found_120 : decode mRef_found.2.1 120 = .ok (.getfield 277, 3) := by decide +kernel
theorem dRef_found_123 : decode mRef_found.2.1 123 = .ok (.ireturn, 1) := by decide +kernel
theorem dRef_found_124 : decode mRef_found.2.1 124 = .ok (.iconst (-1), 1) := by decide +kernel
theorem dRef_found_125 : decode mRef_found.2.1 125 = .ok (.ireturn, 1) := by decide +kernel
theorem dRef_entry_0 : decode mRef_entry.2.1 0 = .ok (.aload_n 0, 1) := by decide +kernel
theorem dRef_entry_1 : decode mRef_entry.2.1 1 = .ok (.aload_n 0, 1) := by decide +kernel
theorem dRef_entry_2 : decode mRef_entry.2.1 2 = .ok (.getfield 274, 3) := by decide +kernel
theorem dRef_entry_5 : decode mRef_entry.2.1 5 = .ok (.ifCond .ne 7, 3) := by decide +kernel
theorem dRef_entry_8 : decode mRef_entry.2.1 8 = .ok (.iconst 1, 1) := by decide +kernel
theorem dRef_entry_9 : decode mRef_entry.2.1 9 = .ok (.goto 33, 3) := by decide +kernel
theorem dRef_entry_12 : decode mRef_entry.2.1 12 = .ok (.iload_n 1, 1) := by decide +kernel
theorem dRef_entry_13 : decode mRef_entry.2.1 13 = .ok (.ifCond .lt 11, 3) := by decide +kernel
theorem dRef_entry_16 : decode mRef_entry.2.1 16 = .ok (.iload_n 1, 1) := by decide +kernel
theorem dRef_entry_17 : decode mRef_entry.2.1 17 = .ok (.aload_n 0, 1) := by decide +kernel
theorem dRef_entry_18 : decode mRef_entry.2.1 18 = .ok (.getfield 242, 3) := by decide +kernel
theorem dRef_entry_21 : decode mRef_entry.2.1 21 = .ok (.if_icmp .lt 7, 3) := by decide +kernel
theorem dRef_entry_24 : decode mRef_entry.2.1 24 = .ok (.iconst 2, 1) := by decide +kernel
theorem dRef_entry_25 : decode mRef_entry.2.1 25 = .ok (.goto 17, 3) := by decide +kernel
theorem dRef_entry_28 : decode mRef_entry.2.1 28 = .ok (.iload_n 2, 1) := by decide +kernel
theorem dRef_entry_29 : decode mRef_entry.2.1 29 = .ok (.ifCond .lt 8, 3) := by decide +kernel
theorem dRef_entry_32 : decode mRef_entry.2.1 32 = .ok (.iload_n 2, 1) := by decide +kernel
theorem dRef_entry_33 : decode mRef_entry.2.1 33 = .ok (.iconst 3, 1) := by decide +kernel
theorem dRef_entry_34 : decode mRef_entry.2.1 34 = .ok (.if_icmp .le 7, 3) := by decide +kernel
theorem dRef_entry_37 : decode mRef_entry.2.1 37 = .ok (.iconst 3, 1) := by decide +kernel
theorem dRef_entry_38 : decode mRef_entry.2.1 38 = .ok (.goto 4, 3) := by decide +kernel
theorem dRef_entry_41 : decode mRef_entry.2.1 41 = .ok (.iconst 0, 1) := by decide +kernel
theorem dRef_entry_42 : decode mRef_entry.2.1 42 = .ok (.putfield 59, 3) := by decide +kernel
theorem dRef_entry_45 : decode mRef_entry.2.1 45 = .ok (.aload_n 0, 1) := by decide +kernel
theorem dRef_entry_46 : decode mRef_entry.2.1 46 = .ok (.getfield 59, 3) := by decide +kernel
theorem dRef_entry_49 : decode mRef_entry.2.1 49 = .ok (.ifCond .le 7, 3) := by decide +kernel
theorem dRef_entry_52 : decode mRef_entry.2.1 52 = .ok (.iconst 0, 1) := by decide +kernel
theorem dRef_entry_53 : decode mRef_entry.2.1 53 = .ok (.goto 13, 3) := by decide +kernel
theorem dRef_entry_56 : decode mRef_entry.2.1 56 = .ok (.aload_n 0, 1) := by decide +kernel
theorem dRef_entry_57 : decode mRef_entry.2.1 57 = .ok (.getfield 31, 3) := by decide +kernel
theorem dRef_entry_60 : decode mRef_entry.2.1 60 = .ok (.iconst 4, 1) := by decide +kernel
theorem dRef_entry_61 : decode mRef_entry.2.1 61 = .ok (.iload_n 1, 1) := by decide +kernel
theorem dRef_entry_62 : decode mRef_entry.2.1 62 = .ok (.imul, 1) := by decide +kernel
theorem dRef_entry_63 : decode mRef_entry.2.1 63 = .ok (.iload_n 2, 1) := by decide +kernel
theorem dRef_entry_64 : decode mRef_entry.2.1 64 = .ok (.iadd, 1) := by decide +kernel
theorem dRef_entry_65 : decode mRef_entry.2.1 65 = .ok (.iaload, 1) := by decide +kernel
theorem dRef_entry_66 : decode mRef_entry.2.1 66 = .ok (.ireturn, 1) := by decide +kernel
theorem dRef_unknown_0 : decode mRef_unknown.2.1 0 = .ok (.aload_n 0, 1) := by decide +kernel
theorem dRef_unknown_1 : decode mRef_unknown.2.1 1 = .ok (.aload_n 0, 1) := by decide +kernel
theorem dRef_unknown_2 : decode mRef_unknown.2.1 2 = .ok (.getfield 274, 3) := by decide +kernel
theorem dRef_unknown_5 : decode mRef_unknown.2.1 5 = .ok (.ifCond .ne 7, 3) := by decide +kernel
theorem dRef_unknown_8 : decode mRef_unknown.2.1 8 = .ok (.iconst 1, 1) := by decide +kernel
theorem dRef_unknown_9 : decode mRef_unknown.2.1 9 = .ok (.goto 20, 3) := by decide +kernel
theorem dRef_unknown_12 : decode mRef_unknown.2.1 12 = .ok (.iload_n 1, 1) := by decide +kernel
theorem dRef_unknown_13 : decode mRef_unknown.2.1 13 = .ok (.ifCond .lt 11, 3) := by decide +kernel
theorem dRef_unknown_16 : decode mRef_unknown.2.1 16 = .ok (.iload_n 1, 1) := by decide +kernel
theorem dRef_unknown_17 : decode mRef_unknown.2.1 17 = .ok (.aload_n 0, 1) := by decide +kernel
theorem dRef_unknown_18 : decode mRef_unknown.2.1 18 = .ok (.getfield 248, 3) := by decide +kernel
theorem dRef_unknown_21 : decode mRef_unknown.2.1 21 = .ok (.if_icmp .lt 7, 3) := by decide +kernel
theorem dRef_unknown_24 : decode mRef_unknown.2.1 24 = .ok (.iconst 2, 1) := by decide +kernel
theorem dRef_unknown_25 : decode mRef_unknown.2.1 25 = .ok (.goto 4, 3) := by decide +kernel
theorem dRef_unknown_28 : decode mRef_unknown.2.1 28 = .ok (.iconst 0, 1) := by decide +kernel
theorem dRef_unknown_29 : decode mRef_unknown.2.1 29 = .ok (.putfield 59, 3) := by decide +kernel
theorem dRef_unknown_32 : decode mRef_unknown.2.1 32 = .ok (.aload_n 0, 1) := by decide +kernel
theorem dRef_unknown_33 : decode mRef_unknown.2.1 33 = .ok (.aload_n 0, 1) := by decide +kernel
theorem dRef_unknown_34 : decode mRef_unknown.2.1 34 = .ok (.getfield 59, 3) := by decide +kernel
theorem dRef_unknown_37 : decode mRef_unknown.2.1 37 = .ok (.ifCond .ne 22, 3) := by decide +kernel
theorem dRef_unknown_40 : decode mRef_unknown.2.1 40 = .ok (.iload_n 2, 1) := by decide +kernel
theorem dRef_unknown_41 : decode mRef_unknown.2.1 41 = .ok (.iconst (-1), 1) := by decide +kernel
theorem dRef_unknown_42 : decode mRef_unknown.2.1 42 = .ok (.if_icmp .lt 13, 3) := by decide +kernel
theorem dRef_unknown_45 : decode mRef_unknown.2.1 45 = .ok (.iload_n 2, 1) := by decide +kernel
theorem dRef_unknown_46 : decode mRef_unknown.2.1 46 = .ok (.aload_n 0, 1) := by decide +kernel
theorem dRef_unknown_47 : decode mRef_unknown.2.1 47 = .ok (.getfield 40, 3) := by decide +kernel
theorem dRef_unknown_50 : decode mRef_unknown.2.1 50 = .ok (.iload_n 1, 1) := by decide +kernel
theorem dRef_unknown_51 : decode mRef_unknown.2.1 51 = .ok (.iaload, 1) := by decide +kernel
theorem dRef_unknown_52 : decode mRef_unknown.2.1 52 = .ok (.if_icmp .lt 7, 3) := by decide +kernel
theorem dRef_unknown_55 : decode mRef_unknown.2.1 55 = .ok (.iconst 2, 1) := by decide +kernel
theorem dRef_unknown_56 : decode mRef_unknown.2.1 56 = .ok (.goto 7, 3) := by decide +kernel
theorem dRef_unknown_59 : decode mRef_unknown.2.1 59 = .ok (.aload_n 0, 1) := by decide +kernel
theorem dRef_unknown_60 : decode mRef_unknown.2.1 60 = .ok (.getfield 59, 3) := by decide +kernel
theorem dRef_unknown_63 : decode mRef_unknown.2.1 63 = .ok (.putfield 59, 3) := by decide +kernel
theorem dRef_unknown_66 : decode mRef_unknown.2.1 66 = .ok (.aload_n 0, 1) := by decide +kernel
theorem dRef_unknown_67 : decode mRef_unknown.2.1 67 = .ok (.getfield 59, 3) := by decide +kernel
theorem dRef_unknown_70 : decode mRef_unknown.2.1 70 = .ok (.ifCond .le 7, 3) := by decide +kernel
theorem dRef_unknown_73 : decode mRef_unknown.2.1 73 = .ok (.iconst 0, 1) := by decide +kernel
theorem dRef_unknown_74 : decode mRef_unknown.2.1 74 = .ok (.goto 27, 3) := by decide +kernel
theorem dRef_unknown_77 : decode mRef_unknown.2.1 77 = .ok (.iload_n 2, 1) := by decide +kernel
theorem dRef_unknown_78 : decode mRef_unknown.2.1 78 = .ok (.ifCond .ge 12, 3) := by decide +kernel
theorem dRef_unknown_81 : decode mRef_unknown.2.1 81 = .ok (.aload_n 0, 1) := by decide +kernel
theorem dRef_unknown_82 : decode mRef_unknown.2.1 82 = .ok (.getfield 37, 3) := by decide +kernel
theorem dRef_unknown_85 : decode mRef_unknown.2.1 85 = .ok (.iload_n 1, 1) := by decide +kernel
theorem dRef_unknown_86 : decode mRef_unknown.2.1 86 = .ok (.iaload, 1) := by decide +kernel
theorem dRef_unknown_87 : decode mRef_unknown.2.1 87 = .ok (.goto 14, 3) := by decide +kernel
theorem dRef_unknown_90 : decode mRef_unknown.2.1 90 = .ok (.aload_n 0, 1) := by decide +kernel
theorem dRef_unknown_91 : decode mRef_unknown.2.1 91 = .ok (.getfield 43, 3) := by decide +kernel
theorem dRef_unknown_94 : decode mRef_unknown.2.1 94 = .ok (.bipush 40, 2) := by decide +kernel
theorem dRef_unknown_96 : decode mRef_unknown.2.1 96 = .ok (.iload_n 1, 1) := by decide +kernel
theorem dRef_unknown_97 : decode mRef_unknown.2.1 97 = .ok (.imul, 1) := by decide +kernel
theorem dRef_unknown_98 : decode mRef_unknown.2.1 98 = .ok (.iload_n 2, 1) := by decide +kernel
theorem dRef_unknown_99 : decode mRef_unknown.2.1 99 = .ok (.iadd, 1) := by decide +kernel
theorem dRef_unknown_100 : decode mRef_unknown.2.1 100 = .ok (.iaload, 1) := by decide +kernel
theorem dRef_unknown_101 : decode mRef_unknown.2.1 101 = .ok (.ireturn, 1) := by decide +kernel
theorem dRef_take_0 : decode mRef_take.2.1 0 = .ok (.aload_n 0, 1) := by decide +kernel
theorem dRef_take_1 : decode mRef_take.2.1 1 = .ok (.aload_n 0, 1) := by decide +kernel
theorem dRef_take_2 : decode mRef_take.2.1 2 = .ok (.getfield 274, 3) := by decide +kernel
theorem dRef_take_5 : decode mRef_take.2.1 5 = .ok (.ifCond .eq 7, 3) := by decide +kernel
theorem dRef_take_8 : decode mRef_take.2.1 8 = .ok (.iconst 0, 1) := by decide +kernel
theorem dRef_take_9 : decode mRef_take.2.1 9 = .ok (.goto 4, 3) := by decide +kernel
theorem dRef_take_12 : decode mRef_take.2.1 12 = .ok (.iconst 1, 1) := by decide +kernel
theorem dRef_take_13 : decode mRef_take.2.1 13 = .ok (.putfield 59, 3) := by decide +kernel
theorem dRef_take_16 : decode mRef_take.2.1 16 = .ok (.aload_n 0, 1) := by decide +kernel
theorem dRef_take_17 : decode mRef_take.2.1 17 = .ok (.getfield 59, 3) := by decide +kernel
theorem dRef_take_20 : decode mRef_take.2.1 20 = .ok (.ifCond .le 4, 3) := by decide +kernel
theorem dRef_take_23 : decode mRef_take.2.1 23 = .ok (.return_, 1) := by decide +kernel
theorem dRef_take_24 : decode mRef_take.2.1 24 = .ok (.aload_n 0, 1) := by decide +kernel
theorem dRef_take_25 : decode mRef_take.2.1 25 = .ok (.iconst 1, 1) := by decide +kernel
theorem dRef_take_26 : decode mRef_take.2.1 26 = .ok (.putfield 67, 3) := by decide +kernel
theorem dRef_take_29 : decode mRef_take.2.1 29 = .ok (.aload_n 0, 1) := by decide +kernel
theorem dRef_take_30 : decode mRef_take.2.1 30 = .ok (.aload_n 0, 1) := by decide +kernel
theorem dRef_take_31 : decode mRef_take.2.1 31 = .ok (.getfield 233, 3) := by decide +kernel
theorem dRef_take_34 : decode mRef_take.2.1 34 = .ok (.putfield 71, 3) := by decide +kernel
theorem dRef_take_37 : decode mRef_take.2.1 37 = .ok (.aload_n 0, 1) := by decide +kernel
theorem dRef_take_38 : decode mRef_take.2.1 38 = .ok (.aload_n 0, 1) := by decide +kernel
theorem dRef_take_39 : decode mRef_take.2.1 39 = .ok (.getfield 236, 3) := by decide +kernel
theorem dRef_take_42 : decode mRef_take.2.1 42 = .ok (.putfield 74, 3) := by decide +kernel
theorem dRef_take_45 : decode mRef_take.2.1 45 = .ok (.aload_n 0, 1) := by decide +kernel
theorem dRef_take_46 : decode mRef_take.2.1 46 = .ok (.aload_n 0, 1) := by decide +kernel
theorem dRef_take_47 : decode mRef_take.2.1 47 = .ok (.getfield 239, 3) := by decide +kernel
theorem dRef_take_50 : decode mRef_take.2.1 50 = .ok (.putfield 77, 3) := by decide +kernel
theorem dRef_take_53 : decode mRef_take.2.1 53 = .ok (.aload_n 0, 1) := by decide +kernel
theorem dRef_take_54 : decode mRef_take.2.1 54 = .ok (.aload_n 0, 1) := by decide +kernel
theorem dRef_take_55 : decode mRef_take.2.1 55 = .ok (.getfield 224, 3) := by decide +kernel
theorem dRef_take_58 : decode mRef_take.2.1 58 = .ok (.putfield 80, 3) := by decide +kernel
theorem dRef_take_61 : decode mRef_take.2.1 61 = .ok (.aload_n 0, 1) := by decide +kernel
theorem dRef_take_62 : decode mRef_take.2.1 62 = .ok (.aload_n 0, 1) := by decide +kernel
theorem dRef_take_63 : decode mRef_take.2.1 63 = .ok (.getfield 242, 3) := by decide +kernel
theorem dRef_take_66 : decode mRef_take.2.1 66 = .ok (.putfield 83, 3) := by decide +kernel
theorem dRef_take_69 : decode mRef_take.2.1 69 = .ok (.aload_n 0, 1) := by decide +kernel
theorem dRef_take_70 : decode mRef_take.2.1 70 = .ok (.aload_n 0, 1) := by decide +kernel
theorem dRef_take_71 : decode mRef_take.2.1 71 = .ok (.getfield 248, 3) := by decide +kernel
theorem dRef_take_74 : decode mRef_take.2.1 74 = .ok (.putfield 86, 3) := by decide +kernel
theorem dRef_take_77 : decode mRef_take.2.1 77 = .ok (.iconst 0, 1) := by decide +kernel
theorem dRef_take_78 : decode mRef_take.2.1 78 = .ok (.istore_n 1, 1) := by decide +kernel
theorem dRef_take_79 : decode mRef_take.2.1 79 = .ok (.iload_n 1, 1) := by decide +kernel
theorem dRef_take_80 : decode mRef_take.2.1 80 = .ok (.sipush 576, 3) := by decide +kernel
theorem dRef_take_83 : decode mRef_take.2.1 83 = .ok (.if_icmp .ge 21, 3) := by decide +kernel
theorem dRef_take_86 : decode mRef_take.2.1 86 = .ok (.aload_n 0, 1) := by decide +kernel
theorem dRef_take_87 : decode mRef_take.2.1 87 = .ok (.getfield 7, 3) := by decide +kernel
theorem dRef_take_90 : decode mRef_take.2.1 90 = .ok (.iload_n 1, 1) := by decide +kernel
theorem dRef_take_91 : decode mRef_take.2.1 91 = .ok (.aload_n 0, 1) := by decide +kernel
theorem dRef_take_92 : decode mRef_take.2.1 92 = .ok (.getfield 28, 3) := by decide +kernel
theorem dRef_take_95 : decode mRef_take.2.1 95 = .ok (.iload_n 1, 1) := by decide +kernel
theorem dRef_take_96 : decode mRef_take.2.1 96 = .ok (.iaload, 1) := by decide +kernel
theorem dRef_take_97 : decode mRef_take.2.1 97 = .ok (.iastore, 1) := by decide +kernel
theorem dRef_take_98 : decode mRef_take.2.1 98 = .ok (.iinc 1 1, 3) := by decide +kernel
theorem dRef_take_101 : decode mRef_take.2.1 101 = .ok (.goto (-22), 3) := by decide +kernel
theorem dRef_take_104 : decode mRef_take.2.1 104 = .ok (.iconst 0, 1) := by decide +kernel
theorem dRef_take_105 : decode mRef_take.2.1 105 = .ok (.istore_n 1, 1) := by decide +kernel
theorem dRef_take_106 : decode mRef_take.2.1 106 = .ok (.iload_n 1, 1) := by decide +kernel
theorem dRef_take_107 : decode mRef_take.2.1 107 = .ok (.sipush 256, 3) := by decide +kernel
theorem dRef_take_110 : decode mRef_take.2.1 110 = .ok (.if_icmp .ge 21, 3) := by decide +kernel
theorem dRef_take_113 : decode mRef_take.2.1 113 = .ok (.aload_n 0, 1) := by decide +kernel
theorem dRef_take_114 : decode mRef_take.2.1 114 = .ok (.getfield 13, 3) := by decide +kernel
theorem dRef_take_117 : decode mRef_take.2.1 117 = .ok (.iload_n 1, 1) := by decide +kernel
theorem dRef_take_118 : decode mRef_take.2.1 118 = .ok (.aload_n 0, 1) := by decide +kernel
theorem dRef_take_119 : decode mRef_take.2.1 119 = .ok (.getfield 31, 3) := by decide +kernel
theorem dRef_take_122 : decode mRef_take.2.1 122 = .ok (.iload_n 1, 1) := by decide +kernel
theorem dRef_take_123 : decode mRef_take.2.1 123 = .ok (.iaload, 1) := by decide +kernel
theorem dRef_take_124 : decode mRef_take.2.1 124 = .ok (.iastore, 1) := by decide +kernel
theorem dRef_take_125 : decode mRef_take.2.1 125 = .ok (.iinc 1 1, 3) := by decide +kernel
theorem dRef_take_128 : decode mRef_take.2.1 128 = .ok (.goto (-22), 3) := by decide +kernel
theorem dRef_take_131 : decode mRef_take.2.1 131 = .ok (.iconst 0, 1) := by decide +kernel
theorem dRef_take_132 : decode mRef_take.2.1 132 = .ok (.istore_n 1, 1) := by decide +kernel
theorem dRef_take_133 : decode mRef_take.2.1 133 = .ok (.iload_n 1, 1) := by decide +kernel
theorem dRef_take_134 : decode mRef_take.2.1 134 = .ok (.sipush 240, 3) := by decide +kernel
theorem dRef_take_137 : decode mRef_take.2.1 137 = .ok (.if_icmp .ge 21, 3) := by decide +kernel
theorem dRef_take_140 : decode mRef_take.2.1 140 = .ok (.aload_n 0, 1) := by decide +kernel
theorem dRef_take_141 : decode mRef_take.2.1 141 = .ok (.getfield 25, 3) := by decide +kernel
theorem dRef_take_144 : decode mRef_take.2.1 144 = .ok (.iload_n 1, 1) := by decide +kernel
theorem dRef_take_145 : decode mRef_take.2.1 145 = .ok (.aload_n 0, 1) := by decide +kernel
theorem dRef_take_146 : decode mRef_take.2.1 146 = .ok (.getfield 43, 3) := by decide +kernel
theorem dRef_take_149 : decode mRef_take.2.1 149 = .ok (.iload_n 1, 1) := by decide +kernel
theorem dRef_take_150 : decode mRef_take.2.1 150 = .ok (.iaload, 1) := by decide +kernel
theorem dRef_take_151 : decode mRef_take.2.1 151 = .ok (.iastore, 1) := by decide +kernel
theorem dRef_take_152 : decode mRef_take.2.1 152 = .ok (.iinc 1 1, 3) := by decide +kernel
theorem dRef_take_155 : decode mRef_take.2.1 155 = .ok (.goto (-22), 3) := by decide +kernel
theorem dRef_take_158 : decode mRef_take.2.1 158 = .ok (.iconst 0, 1) := by decide +kernel
theorem dRef_take_159 : decode mRef_take.2.1 159 = .ok (.istore_n 1, 1) := by decide +kernel
theorem dRef_take_160 : decode mRef_take.2.1 160 = .ok (.iload_n 1, 1) := by decide +kernel
theorem dRef_take_161 : decode mRef_take.2.1 161 = .ok (.bipush 6, 2) := by decide +kernel
theorem dRef_take_163 : decode mRef_take.2.1 163 = .ok (.if_icmp .ge 33, 3) := by decide +kernel
theorem dRef_take_166 : decode mRef_take.2.1 166 = .ok (.aload_n 0, 1) := by decide +kernel
theorem dRef_take_167 : decode mRef_take.2.1 167 = .ok (.getfield 19, 3) := by decide +kernel
theorem dRef_take_170 : decode mRef_take.2.1 170 = .ok (.iload_n 1, 1) := by decide +kernel
theorem dRef_take_171 : decode mRef_take.2.1 171 = .ok (.aload_n 0, 1) := by decide +kernel
theorem dRef_take_172 : decode mRef_take.2.1 172 = .ok (.getfield 37, 3) := by decide +kernel
theorem dRef_take_175 : decode mRef_take.2.1 175 = .ok (.iload_n 1, 1) := by decide +kernel
theorem dRef_take_176 : decode mRef_take.2.1 176 = .ok (.iaload, 1) := by decide +kernel
theorem dRef_take_177 : decode mRef_take.2.1 177 = .ok (.iastore, 1) := by decide +kernel
theorem dRef_take_178 : decode mRef_take.2.1 178 = .ok (.aload_n 0, 1) := by decide +kernel
theorem dRef_take_179 : decode mRef_take.2.1 179 = .ok (.getfield 22, 3) := by decide +kernel
theorem dRef_take_182 : decode mRef_take.2.1 182 = .ok (.iload_n 1, 1) := by decide +kernel
theorem dRef_take_183 : decode mRef_take.2.1 183 = .ok (.aload_n 0, 1) := by decide +kernel
theorem dRef_take_184 : decode mRef_take.2.1 184 = .ok (.getfield 40, 3) := by decide +kernel
theorem dRef_take_187 : decode mRef_take.2.1 187 = .ok (.iload_n 1, 1) := by decide +kernel
theorem dRef_take_188 : decode mRef_take.2.1 188 = .ok (.iaload, 1) := by decide +kernel
theorem dRef_take_189 : decode mRef_take.2.1 189 = .ok (.iastore, 1) := by decide +kernel
theorem dRef_take_190 : decode mRef_take.2.1 190 = .ok (.iinc 1 1, 3) := by decide +kernel
theorem dRef_take_193 : decode mRef_take.2.1 193 = .ok (.goto (-33), 3) := by decide +kernel
theorem dRef_take_196 : decode mRef_take.2.1 196 = .ok (.iconst 0, 1) := by decide +kernel
theorem dRef_take_197 : decode mRef_take.2.1 197 = .ok (.istore_n 1, 1) := by decide +kernel
theorem dRef_take_198 : decode mRef_take.2.1 198 = .ok (.iload_n 1, 1) := by decide +kernel
theorem dRef_take_199 : decode mRef_take.2.1 199 = .ok (.iconst 3, 1) := by decide +kernel
theorem dRef_take_200 : decode mRef_take.2.1 200 = .ok (.if_icmp .ge 21, 3) := by decide +kernel
theorem dRef_take_203 : decode mRef_take.2.1 203 = .ok (.aload_n 0, 1) := by decide +kernel
theorem dRef_take_204 : decode mRef_take.2.1 204 = .ok (.getfield 16, 3) := by decide +kernel
theorem dRef_take_207 : decode mRef_take.2.1 207 = .ok (.iload_n 1, 1) := by decide +kernel
theorem dRef_take_208 : decode mRef_take.2.1 208 = .ok (.aload_n 0, 1) := by decide +kernel
theorem dRef_take_209 : decode mRef_take.2.1 209 = .ok (.getfield 34, 3) := by decide +kernel
theorem dRef_take_212 : decode mRef_take.2.1 212 = .ok (.iload_n 1, 1) := by decide +kernel
theorem dRef_take_213 : decode mRef_take.2.1 213 = .ok (.iaload, 1) := by decide +kernel
theorem dRef_take_214 : decode mRef_take.2.1 214 = .ok (.iastore, 1) := by decide +kernel
theorem dRef_take_215 : decode mRef_take.2.1 215 = .ok (.iinc 1 1, 3) := by decide +kernel
theorem dRef_take_218 : decode mRef_take.2.1 218 = .ok (.goto (-20), 3) := by decide +kernel
theorem dRef_take_221 : decode mRef_take.2.1 221 = .ok (.return_, 1) := by decide +kernel
theorem dRef_told_0 : decode mRef_told.2.1 0 = .ok (.aload_n 0, 1) := by decide +kernel
theorem dRef_told_1 : decode mRef_told.2.1 1 = .ok (.iconst 0, 1) := by decide +kernel
theorem dRef_told_2 : decode mRef_told.2.1 2 = .ok (.putfield 59, 3) := by decide +kernel
theorem dRef_told_5 : decode mRef_told.2.1 5 = .ok (.iload_n 1, 1) := by decide +kernel
theorem dRef_told_6 : decode mRef_told.2.1 6 = .ok (.tableswitch 99 0 6 #[42, 47, 63, 79, 84, 89, 94], 42) := by decide +kernel
theorem dRef_told_48 : decode mRef_told.2.1 48 = .ok (.aload_n 0, 1) := by decide +kernel
theorem dRef_told_49 : decode mRef_told.2.1 49 = .ok (.getfield 206, 3) := by decide +kernel
theorem dRef_told_52 : decode mRef_told.2.1 52 = .ok (.ireturn, 1) := by decide +kernel
theorem dRef_told_53 : decode mRef_told.2.1 53 = .ok (.aload_n 0, 1) := by decide +kernel
theorem dRef_told_54 : decode mRef_told.2.1 54 = .ok (.getfield 67, 3) := by decide +kernel
theorem dRef_told_57 : decode mRef_told.2.1 57 = .ok (.ifCond .eq 10, 3) := by decide +kernel
theorem dRef_told_60 : decode mRef_told.2.1 60 = .ok (.aload_n 0, 1) := by decide +kernel
theorem dRef_told_61 : decode mRef_told.2.1 61 = .ok (.getfield 80, 3) := by decide +kernel
theorem dRef_told_64 : decode mRef_told.2.1 64 = .ok (.goto 4, 3) := by decide +kernel
theorem dRef_told_67 : decode mRef_told.2.1 67 = .ok (.iconst (-1), 1) := by decide +kernel
theorem dRef_told_68 : decode mRef_told.2.1 68 = .ok (.ireturn, 1) := by decide +kernel
theorem dRef_told_69 : decode mRef_told.2.1 69 = .ok (.aload_n 0, 1) := by decide +kernel
theorem dRef_told_70 : decode mRef_told.2.1 70 = .ok (.getfield 67, 3) := by decide +kernel
theorem dRef_told_73 : decode mRef_told.2.1 73 = .ok (.ifCond .eq 10, 3) := by decide +kernel
theorem dRef_told_76 : decode mRef_told.2.1 76 = .ok (.aload_n 0, 1) := by decide +kernel
theorem dRef_told_77 : decode mRef_told.2.1 77 = .ok (.getfield 77, 3) := by decide +kernel
theorem dRef_told_80 : decode mRef_told.2.1 80 = .ok (.goto 4, 3) := by decide +kernel
theorem dRef_told_83 : decode mRef_told.2.1 83 = .ok (.iconst (-1), 1) := by decide +kernel
theorem dRef_told_84 : decode mRef_told.2.1 84 = .ok (.ireturn, 1) := by decide +kernel
theorem dRef_told_85 : decode mRef_told.2.1 85 = .ok (.aload_n 0, 1) := by decide +kernel
theorem dRef_told_86 : decode mRef_told.2.1 86 = .ok (.getfield 86, 3) := by decide +kernel
theorem dRef_told_89 : decode mRef_told.2.1 89 = .ok (.ireturn, 1) := by decide +kernel
theorem dRef_told_90 : decode mRef_told.2.1 90 = .ok (.aload_n 0, 1) := by decide +kernel
theorem dRef_told_91 : decode mRef_told.2.1 91 = .ok (.getfield 147, 3) := by decide +kernel
theorem dRef_told_94 : decode mRef_told.2.1 94 = .ok (.ireturn, 1) := by decide +kernel
theorem dRef_told_95 : decode mRef_told.2.1 95 = .ok (.aload_n 0, 1) := by decide +kernel
theorem dRef_told_96 : decode mRef_told.2.1 96 = .ok (.getfield 196, 3) := by decide +kernel
theorem dRef_told_99 : decode mRef_told.2.1 99 = .ok (.ireturn, 1) := by decide +kernel
theorem dRef_told_100 : decode mRef_told.2.1 100 = .ok (.aload_n 0, 1) := by decide +kernel
theorem dRef_told_101 : decode mRef_told.2.1 101 = .ok (.getfield 83, 3) := by decide +kernel
theorem dRef_told_104 : decode mRef_told.2.1 104 = .ok (.ireturn, 1) := by decide +kernel
theorem dRef_told_105 : decode mRef_told.2.1 105 = .ok (.iconst (-1), 1) := by decide +kernel
theorem dRef_told_106 : decode mRef_told.2.1 106 = .ok (.ireturn, 1) := by decide +kernel
theorem dRef_drop_0 : decode mRef_drop.2.1 0 = .ok (.aload_n 0, 1) := by decide +kernel
theorem dRef_drop_1 : decode mRef_drop.2.1 1 = .ok (.iconst 0, 1) := by decide +kernel
theorem dRef_drop_2 : decode mRef_drop.2.1 2 = .ok (.putfield 59, 3) := by decide +kernel
theorem dRef_drop_5 : decode mRef_drop.2.1 5 = .ok (.aload_n 0, 1) := by decide +kernel
theorem dRef_drop_6 : decode mRef_drop.2.1 6 = .ok (.iconst 0, 1) := by decide +kernel
theorem dRef_drop_7 : decode mRef_drop.2.1 7 = .ok (.putfield 196, 3) := by decide +kernel
theorem dRef_drop_10 : decode mRef_drop.2.1 10 = .ok (.return_, 1) := by decide +kernel
