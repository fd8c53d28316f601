theorem dBytes_init_0 : decode mBytes_init.2.1 0 = .ok (.aload_n 0, 1) := by decide +kernel
theorem dBytes_init_1 : decode mBytes_init.2.1 1 = .ok (.invokespecial 1, 3) := by decide +kernel
theorem dBytes_init_4 : decode mBytes_init.2.1 4 = .ok (.aload_n 0, 1) := by decide +kernel
theorem dBytes_init_5 : decode mBytes_init.2.1 5 = .ok (.iload_n 1, 1) := by decide +kernel
theorem dBytes_init_6 : decode mBytes_init.2.1 6 = .ok (.ifCond .ge 7, 3) := by decide +kernel
theorem dBytes_init_9 : decode mBytes_init.2.1 9 = .ok (.iconst 0, 1) := by decide +kernel
theorem dBytes_init_10 : decode mBytes_init.2.1 10 = .ok (.goto 4, 3) := by decide +kernel
theorem dBytes_init_13 : decode mBytes_init.2.1 13 = .ok (.iload_n 1, 1) := by decide +kernel
theorem dBytes_init_14 : decode mBytes_init.2.1 14 = .ok (.newarray .int, 2) := by decide +kernel
theorem dBytes_init_16 : decode mBytes_init.2.1 16 = .ok (.putfield 7, 3) := by decide +kernel
theorem dBytes_init_19 : decode mBytes_init.2.1 19 = .ok (.return_, 1) := by decide +kernel
theorem dBytes_clear_0 : decode mBytes_clear.2.1 0 = .ok (.aload_n 0, 1) := by decide +kernel
theorem dBytes_clear_1 : decode mBytes_clear.2.1 1 = .ok (.iconst 0, 1) := by decide +kernel
theorem dBytes_clear_2 : decode mBytes_clear.2.1 2 = .ok (.putfield 13, 3) := by decide +kernel
theorem dBytes_clear_5 : decode mBytes_clear.2.1 5 = .ok (.return_, 1) := by decide +kernel
theorem dBytes_has_0 : decode mBytes_has.2.1 0 = .ok (.iload_n 1, 1) := by decide +kernel
theorem dBytes_has_1 : decode mBytes_has.2.1 1 = .ok (.ifCond .lt 15, 3) := by decide +kernel
theorem dBytes_has_4 : decode mBytes_has.2.1 4 = .ok (.iload_n 1, 1) := by decide +kernel
theorem dBytes_has_5 : decode mBytes_has.2.1 5 = .ok (.aload_n 0, 1) := by decide +kernel
theorem dBytes_has_6 : decode mBytes_has.2.1 6 = .ok (.getfield 13, 3) := by decide +kernel
theorem dBytes_has_9 : decode mBytes_has.2.1 9 = .ok (.if_icmp .ge 7, 3) := by decide +kernel
theorem dBytes_has_12 : decode mBytes_has.2.1 12 = .ok (.iconst 1, 1) := by decide +kernel
theorem dBytes_has_13 : decode mBytes_has.2.1 13 = .ok (.goto 4, 3) := by decide +kernel
theorem dBytes_has_16 : decode mBytes_has.2.1 16 = .ok (.iconst 0, 1) := by decide +kernel
theorem dBytes_has_17 : decode mBytes_has.2.1 17 = .ok (.ireturn, 1) := by decide +kernel
theorem dBytes_value_0 : decode mBytes_value.2.1 0 = .ok (.aload_n 0, 1) := by decide +kernel
theorem dBytes_value_1 : decode mBytes_value.2.1 1 = .ok (.iload_n 1, 1) := by decide +kernel
theorem dBytes_value_2 : decode mBytes_value.2.1 2 = .ok (.invokevirtual 17, 3) := by decide +kernel
theorem dBytes_value_5 : decode mBytes_value.2.1 5 = .ok (.ifCond .eq 12, 3) := by decide +kernel
theorem dBytes_value_8 : decode mBytes_value.2.1 8 = .ok (.aload_n 0, 1) := by decide +kernel
theorem dBytes_value_9 : decode mBytes_value.2.1 9 = .ok (.getfield 7, 3) := by decide +kernel
theorem dBytes_value_12 : decode mBytes_value.2.1 12 = .ok (.iload_n 1, 1) := by decide +kernel
theorem dBytes_value_13 : decode mBytes_value.2.1 13 = .ok (.iaload, 1) := by decide +kernel
theorem dBytes_value_14 : decode mBytes_value.2.1 14 = .ok (.goto 4, 3) := by decide +kernel
theorem dBytes_value_17 : decode mBytes_value.2.1 17 = .ok (.iconst 0, 1) := by decide +kernel
theorem dBytes_value_18 : decode mBytes_value.2.1 18 = .ok (.ireturn, 1) := by decide +kernel
theorem dBytes_set_0 : decode mBytes_set.2.1 0 = .ok (.aload_n 0, 1) := by decide +kernel
theorem dBytes_set_1 : decode mBytes_set.2.1 1 = .ok (.iload_n 1, 1) := by decide +kernel
theorem dBytes_set_2 : decode mBytes_set.2.1 2 = .ok (.invokevirtual 17, 3) := by decide +kernel
theorem dBytes_set_5 : decode mBytes_set.2.1 5 = .ok (.ifCond .eq 10, 3) := by decide +kernel
theorem dBytes_set_8 : decode mBytes_set.2.1 8 = .ok (.aload_n 0, 1) := by decide +kernel
theorem dBytes_set_9 : decode mBytes_set.2.1 9 = .ok (.getfield 7, 3) := by decide +kernel
theorem dBytes_set_12 : decode mBytes_set.2.1 12 = .ok (.iload_n 1, 1) := by decide +kernel
theorem dBytes_set_13 : decode mBytes_set.2.1 13 = .ok (.iload_n 2, 1) := by decide +kernel
theorem dBytes_set_14 : decode mBytes_set.2.1 14 = .ok (.iastore, 1) := by decide +kernel
theorem dBytes_set_15 : decode mBytes_set.2.1 15 = .ok (.return_, 1) := by decide +kernel
theorem dBytes_add_0 : decode mBytes_add.2.1 0 = .ok (.aload_n 0, 1) := by decide +kernel
theorem dBytes_add_1 : decode mBytes_add.2.1 1 = .ok (.getfield 13, 3) := by decide +kernel
theorem dBytes_add_4 : decode mBytes_add.2.1 4 = .ok (.aload_n 0, 1) := by decide +kernel
theorem dBytes_add_5 : decode mBytes_add.2.1 5 = .ok (.getfield 7, 3) := by decide +kernel
theorem dBytes_add_8 : decode mBytes_add.2.1 8 = .ok (.arraylength, 1) := by decide +kernel
theorem dBytes_add_9 : decode mBytes_add.2.1 9 = .ok (.if_icmp .ge 23, 3) := by decide +kernel
theorem dBytes_add_12 : decode mBytes_add.2.1 12 = .ok (.aload_n 0, 1) := by decide +kernel
theorem dBytes_add_13 : decode mBytes_add.2.1 13 = .ok (.getfield 7, 3) := by decide +kernel
theorem dBytes_add_16 : decode mBytes_add.2.1 16 = .ok (.aload_n 0, 1) := by decide +kernel
theorem dBytes_add_17 : decode mBytes_add.2.1 17 = .ok (.getfield 13, 3) := by decide +kernel
theorem dBytes_add_20 : decode mBytes_add.2.1 20 = .ok (.iload_n 1, 1) := by decide +kernel
theorem dBytes_add_21 : decode mBytes_add.2.1 21 = .ok (.iastore, 1) := by decide +kernel
theorem dBytes_add_22 : decode mBytes_add.2.1 22 = .ok (.aload_n 0, 1) := by decide +kernel
theorem dBytes_add_23 : decode mBytes_add.2.1 23 = .ok (.dup, 1) := by decide +kernel
theorem dBytes_add_24 : decode mBytes_add.2.1 24 = .ok (.getfield 13, 3) := by decide +kernel
theorem dBytes_add_27 : decode mBytes_add.2.1 27 = .ok (.iconst 1, 1) := by decide +kernel
theorem dBytes_add_28 : decode mBytes_add.2.1 28 = .ok (.iadd, 1) := by decide +kernel
theorem dBytes_add_29 : decode mBytes_add.2.1 29 = .ok (.putfield 13, 3) := by decide +kernel
theorem dBytes_add_32 : decode mBytes_add.2.1 32 = .ok (.return_, 1) := by decide +kernel
theorem dBytes_number_0 : decode mBytes_number.2.1 0 = .ok (.aload_n 0, 1) := by decide +kernel
theorem dBytes_number_1 : decode mBytes_number.2.1 1 = .ok (.iload_n 1, 1) := by decide +kernel
theorem dBytes_number_2 : decode mBytes_number.2.1 2 = .ok (.invokevirtual 21, 3) := by decide +kernel
theorem dBytes_number_5 : decode mBytes_number.2.1 5 = .ok (.bipush 24, 2) := by decide +kernel
theorem dBytes_number_7 : decode mBytes_number.2.1 7 = .ok (.ishl, 1) := by decide +kernel
theorem dBytes_number_8 : decode mBytes_number.2.1 8 = .ok (.aload_n 0, 1) := by decide +kernel
theorem dBytes_number_9 : decode mBytes_number.2.1 9 = .ok (.iload_n 1, 1) := by decide +kernel
theorem dBytes_number_10 : decode mBytes_number.2.1 10 = .ok (.iconst 1, 1) := by decide +kernel
theorem dBytes_number_11 : decode mBytes_number.2.1 11 = .ok (.iadd, 1) := by decide +kernel
theorem dBytes_number_12 : decode mBytes_number.2.1 12 = .ok (.invokevirtual 21, 3) := by decide +kernel
theorem dBytes_number_15 : decode mBytes_number.2.1 15 = .ok (.bipush 16, 2) := by decide +kernel
theorem dBytes_number_17 : decode mBytes_number.2.1 17 = .ok (.ishl, 1) := by decide +kernel
theorem dBytes_number_18 : decode mBytes_number.2.1 18 = .ok (.ior, 1) := by decide +kernel
theorem dBytes_number_19 : decode mBytes_number.2.1 19 = .ok (.aload_n 0, 1) := by decide +kernel
theorem dBytes_number_20 : decode mBytes_number.2.1 20 = .ok (.iload_n 1, 1) := by decide +kernel
theorem dBytes_number_21 : decode mBytes_number.2.1 21 = .ok (.iconst 2, 1) := by decide +kernel
theorem dBytes_number_22 : decode mBytes_number.2.1 22 = .ok (.iadd, 1) := by decide +kernel
theorem dBytes_number_23 : decode mBytes_number.2.1 23 = .ok (.invokevirtual 21, 3) := by decide +kernel
theorem dBytes_number_26 : decode mBytes_number.2.1 26 = .ok (.bipush 8, 2) := by decide +kernel
theorem dBytes_number_28 : decode mBytes_number.2.1 28 = .ok (.ishl, 1) := by decide +kernel
theorem dBytes_number_29 : decode mBytes_number.2.1 29 = .ok (.ior, 1) := by decide +kernel
theorem dBytes_number_30 : decode mBytes_number.2.1 30 = .ok (.aload_n 0, 1) := by decide +kernel
theorem dBytes_number_31 : decode mBytes_number.2.1 31 = .ok (.iload_n 1, 1) := by decide +kernel
theorem dBytes_number_32 : decode mBytes_number.2.1 32 = .ok (.iconst 3, 1) := by decide +kernel
theorem dBytes_number_33 : decode mBytes_number.2.1 33 = .ok (.iadd, 1) := by decide +kernel
theorem dBytes_number_34 : decode mBytes_number.2.1 34 = .ok (.invokevirtual 21, 3) := by decide +kernel
theorem dBytes_number_37 : decode mBytes_number.2.1 37 = .ok (.ior, 1) := by decide +kernel
theorem dBytes_number_38 : decode mBytes_number.2.1 38 = .ok (.ireturn, 1) := by decide +kernel
theorem dBytes_setNumber_0 : decode mBytes_setNumber.2.1 0 = .ok (.aload_n 0, 1) := by decide +kernel
theorem dBytes_setNumber_1 : decode mBytes_setNumber.2.1 1 = .ok (.iload_n 1, 1) := by decide +kernel
theorem dBytes_setNumber_2 : decode mBytes_setNumber.2.1 2 = .ok (.iload_n 2, 1) := by decide +kernel
theorem dBytes_setNumber_3 : decode mBytes_setNumber.2.1 3 = .ok (.bipush 24, 2) := by decide +kernel
theorem dBytes_setNumber_5 : decode mBytes_setNumber.2.1 5 = .ok (.iushr, 1) := by decide +kernel
theorem dBytes_setNumber_6 : decode mBytes_setNumber.2.1 6 = .ok (.invokevirtual 25, 3) := by decide +kernel
theorem dBytes_setNumber_9 : decode mBytes_setNumber.2.1 9 = .ok (.aload_n 0, 1) := by decide +kernel
theorem dBytes_setNumber_10 : decode mBytes_setNumber.2.1 10 = .ok (.iload_n 1, 1) := by decide +kernel
theorem dBytes_setNumber_11 : decode mBytes_setNumber.2.1 11 = .ok (.iconst 1, 1) := by decide +kernel
theorem dBytes_setNumber_12 : decode mBytes_setNumber.2.1 12 = .ok (.iadd, 1) := by decide +kernel
theorem dBytes_setNumber_13 : decode mBytes_setNumber.2.1 13 = .ok (.iload_n 2, 1) := by decide +kernel
theorem dBytes_setNumber_14 : decode mBytes_setNumber.2.1 14 = .ok (.bipush 16, 2) := by decide +kernel
theorem dBytes_setNumber_16 : decode mBytes_setNumber.2.1 16 = .ok (.iushr, 1) := by decide +kernel
theorem dBytes_setNumber_17 : decode mBytes_setNumber.2.1 17 = .ok (.sipush 255, 3) := by decide +kernel
theorem dBytes_setNumber_20 : decode mBytes_setNumber.2.1 20 = .ok (.iand, 1) := by decide +kernel
theorem dBytes_setNumber_21 : decode mBytes_setNumber.2.1 21 = .ok (.invokevirtual 25, 3) := by decide +kernel
theorem dBytes_setNumber_24 : decode mBytes_setNumber.2.1 24 = .ok (.aload_n 0, 1) := by decide +kernel
theorem dBytes_setNumber_25 : decode mBytes_setNumber.2.1 25 = .ok (.iload_n 1, 1) := by decide +kernel
theorem dBytes_setNumber_26 : decode mBytes_setNumber.2.1 26 = .ok (.iconst 2, 1) := by decide +kernel
theorem dBytes_setNumber_27 : decode mBytes_setNumber.2.1 27 = .ok (.iadd, 1) := by decide +kernel
theorem dBytes_setNumber_28 : decode mBytes_setNumber.2.1 28 = .ok (.iload_n 2, 1) := by decide +kernel
theorem dBytes_setNumber_29 : decode mBytes_setNumber.2.1 29 = .ok (.bipush 8, 2) := by decide +kernel
theorem dBytes_setNumber_31 : decode mBytes_setNumber.2.1 31 = .ok (.iushr, 1) := by decide +kernel
theorem dBytes_setNumber_32 : decode mBytes_setNumber.2.1 32 = .ok (.sipush 255, 3) := by decide +kernel
theorem dBytes_setNumber_35 : decode mBytes_setNumber.2.1 35 = .ok (.iand, 1) := by decide +kernel
theorem dBytes_setNumber_36 : decode mBytes_setNumber.2.1 36 = .ok (.invokevirtual 25, 3) := by decide +kernel
theorem dBytes_setNumber_39 : decode mBytes_setNumber.2.1 39 = .ok (.aload_n 0, 1) := by decide +kernel
theorem dBytes_setNumber_40 : decode mBytes_setNumber.2.1 40 = .ok (.iload_n 1, 1) := by decide +kernel
theorem dBytes_setNumber_41 : decode mBytes_setNumber.2.1 41 = .ok (.iconst 3, 1) := by decide +kernel
theorem dBytes_setNumber_42 : decode mBytes_setNumber.2.1 42 = .ok (.iadd, 1) := by decide +kernel
theorem dBytes_setNumber_43 : decode mBytes_setNumber.2.1 43 = .ok (.iload_n 2, 1) := by decide +kernel
theorem dBytes_setNumber_44 : decode mBytes_setNumber.2.1 44 = .ok (.sipush 255, 3) := by decide +kernel
theorem dBytes_setNumber_47 : decode mBytes_setNumber.2.1 47 = .ok (.iand, 1) := by decide +kernel
theorem dBytes_setNumber_48 : decode mBytes_setNumber.2.1 48 = .ok (.invokevirtual 25, 3) := by decide +kernel
theorem dBytes_setNumber_51 : decode mBytes_setNumber.2.1 51 = .ok (.return_, 1) := by decide +kernel
theorem dBytes_addNumber_0 : decode mBytes_addNumber.2.1 0 = .ok (.aload_n 0, 1) := by decide +kernel
theorem dBytes_addNumber_1 : decode mBytes_addNumber.2.1 1 = .ok (.iload_n 1, 1) := by decide +kernel
theorem dBytes_addNumber_2 : decode mBytes_addNumber.2.1 2 = .ok (.bipush 24, 2) := by decide +kernel
theorem dBytes_addNumber_4 : decode mBytes_addNumber.2.1 4 = .ok (.iushr, 1) := by decide +kernel
theorem dBytes_addNumber_5 : decode mBytes_addNumber.2.1 5 = .ok (.invokevirtual 29, 3) := by decide +kernel
theorem dBytes_addNumber_8 : decode mBytes_addNumber.2.1 8 = .ok (.aload_n 0, 1) := by decide +kernel
theorem dBytes_addNumber_9 : decode mBytes_addNumber.2.1 9 = .ok (.iload_n 1, 1) := by decide +kernel
theorem dBytes_addNumber_10 : decode mBytes_addNumber.2.1 10 = .ok (.bipush 16, 2) := by decide +kernel
theorem dBytes_addNumber_12 : decode mBytes_addNumber.2.1 12 = .ok (.iushr, 1) := by decide +kernel
theorem dBytes_addNumber_13 : decode mBytes_addNumber.2.1 13 = .ok (.sipush 255, 3) := by decide +kernel
theorem dBytes_addNumber_16 : decode mBytes_addNumber.2.1 16 = .ok (.iand, 1) := by decide +kernel
theorem dBytes_addNumber_17 : decode mBytes_addNumber.2.1 17 = .ok (.invokevirtual 29, 3) := by decide +kernel
theorem dBytes_addNumber_20 : decode mBytes_addNumber.2.1 20 = .ok (.aload_n 0, 1) := by decide +kernel
theorem dBytes_addNumber_21 : decode mBytes_addNumber.2.1 21 = .ok (.iload_n 1, 1) := by decide +kernel
theorem dBytes_addNumber_22 : decode mBytes_addNumber.2.1 22 = .ok (.bipush 8, 2) := by decide +kernel
theorem dBytes_addNumber_24 : decode mBytes_addNumber.2.1 24 = .ok (.iushr, 1) := by decide +kernel
theorem dBytes_addNumber_25 : decode mBytes_addNumber.2.1 25 = .ok (.sipush 255, 3) := by decide +kernel
theorem dBytes_addNumber_28 : decode mBytes_addNumber.2.1 28 = .ok (.iand, 1) := by decide +kernel
theorem dBytes_addNumber_29 : decode mBytes_addNumber.2.1 29 = .ok (.invokevirtual 29, 3) := by decide +kernel
theorem dBytes_addNumber_32 : decode mBytes_addNumber.2.1 32 = .ok (.aload_n 0, 1) := by decide +kernel
theorem dBytes_addNumber_33 : decode mBytes_addNumber.2.1 33 = .ok (.iload_n 1, 1) := by decide +kernel
theorem dBytes_addNumber_34 : decode mBytes_addNumber.2.1 34 = .ok (.sipush 255, 3) := by decide +kernel
theorem dBytes_addNumber_37 : decode mBytes_addNumber.2.1 37 = .ok (.iand, 1) := by decide +kernel
theorem dBytes_addNumber_38 : decode mBytes_addNumber.2.1 38 = .ok (.invokevirtual 29, 3) := by decide +kernel
theorem dBytes_addNumber_41 : decode mBytes_addNumber.2.1 41 = .ok (.return_, 1) := by decide +kernel
theorem dBytes_addBeginning_0 : decode mBytes_addBeginning.2.1 0 = .ok (.iconst 0, 1) := by decide +kernel
theorem dBytes_addBeginning_1 : decode mBytes_addBeginning.2.1 1 = .ok (.istore_n 1, 1) := by decide +kernel
theorem dBytes_addBeginning_2 : decode mBytes_addBeginning.2.1 2 = .ok (.iload_n 1, 1) := by decide +kernel
theorem dBytes_addBeginning_3 : decode mBytes_addBeginning.2.1 3 = .ok (.getstatic 33, 3) := by decide +kernel
theorem dBytes_addBeginning_6 : decode mBytes_addBeginning.2.1 6 = .ok (.arraylength, 1) := by decide +kernel
theorem dBytes_addBeginning_7 : decode mBytes_addBeginning.2.1 7 = .ok (.if_icmp .ge 18, 3) := by decide +kernel
theorem dBytes_addBeginning_10 : decode mBytes_addBeginning.2.1 10 = .ok (.aload_n 0, 1) := by decide +kernel
theorem dBytes_addBeginning_11 : decode mBytes_addBeginning.2.1 11 = .ok (.getstatic 33, 3) := by decide +kernel
theorem dBytes_addBeginning_14 : decode mBytes_addBeginning.2.1 14 = .ok (.iload_n 1, 1) := by decide +kernel
theorem dBytes_addBeginning_15 : decode mBytes_addBeginning.2.1 15 = .ok (.iaload, 1) := by decide +kernel
theorem dBytes_addBeginning_16 : decode mBytes_addBeginning.2.1 16 = .ok (.invokevirtual 29, 3) := by decide +kernel
theorem dBytes_addBeginning_19 : decode mBytes_addBeginning.2.1 19 = .ok (.iinc 1 1, 3) := by decide +kernel
theorem dBytes_addBeginning_22 : decode mBytes_addBeginning.2.1 22 = .ok (.goto (-20), 3) := by decide +kernel
theorem dBytes_addBeginning_25 : decode mBytes_addBeginning.2.1 25 = .ok (.return_, 1) := by decide +kernel
theorem dBytes_hasBeginning_0 : decode mBytes_hasBeginning.2.1 0 = .ok (.iconst 0, 1) := by decide +kernel
theorem dBytes_hasBeginning_1 : decode mBytes_hasBeginning.2.1 1 = .ok (.istore_n 1, 1) := by decide +kernel
theorem dBytes_hasBeginning_2 : decode mBytes_hasBeginning.2.1 2 = .ok (.iload_n 1, 1) := by decide +kernel
theorem dBytes_hasBeginning_3 : decode mBytes_hasBeginning.2.1 3 = .ok (.getstatic 33, 3) := by decide +kernel
theorem dBytes_hasBeginning_6 : decode mBytes_hasBeginning.2.1 6 = .ok (.arraylength, 1) := by decide +kernel
theorem dBytes_hasBeginning_7 : decode mBytes_hasBeginning.2.1 7 = .ok (.if_icmp .ge 32, 3) := by decide +kernel
theorem dBytes_hasBeginning_10 : decode mBytes_hasBeginning.2.1 10 = .ok (.aload_n 0, 1) := by decide +kernel
theorem dBytes_hasBeginning_11 : decode mBytes_hasBeginning.2.1 11 = .ok (.iload_n 1, 1) := by decide +kernel
theorem dBytes_hasBeginning_12 : decode mBytes_hasBeginning.2.1 12 = .ok (.invokevirtual 17, 3) := by decide +kernel
theorem dBytes_hasBeginning_15 : decode mBytes_hasBeginning.2.1 15 = .ok (.ifCond .eq 16, 3) := by decide +kernel
theorem dBytes_hasBeginning_18 : decode mBytes_hasBeginning.2.1 18 = .ok (.aload_n 0, 1) := by decide +kernel
theorem dBytes_hasBeginning_19 : decode mBytes_hasBeginning.2.1 19 = .ok (.iload_n 1, 1) := by decide +kernel
theorem dBytes_hasBeginning_20 : decode mBytes_hasBeginning.2.1 20 = .ok (.invokevirtual 21, 3) := by decide +kernel
theorem dBytes_hasBeginning_23 : decode mBytes_hasBeginning.2.1 23 = .ok (.getstatic 33, 3) := by decide +kernel
theorem dBytes_hasBeginning_26 : decode mBytes_hasBeginning.2.1 26 = .ok (.iload_n 1, 1) := by decide +kernel
theorem dBytes_hasBeginning_27 : decode mBytes_hasBeginning.2.1 27 = .ok (.iaload, 1) := by decide +kernel
theorem dBytes_hasBeginning_28 : decode mBytes_hasBeginning.2.1 28 = .ok (.if_icmp .eq 5, 3) := by decide +kernel
theorem dBytes_hasBeginning_31 : decode mBytes_hasBeginning.2.1 31 = .ok (.iconst 0, 1) := by decide +kernel
theorem dBytes_hasBeginning_32 : decode mBytes_hasBeginning.2.1 32 = .ok (.ireturn, 1) := by decide +kernel
theorem dBytes_hasBeginning_33 : decode mBytes_hasBeginning.2.1 33 = .ok (.iinc 1 1, 3) := by decide +kernel
theorem dBytes_hasBeginning_36 : decode mBytes_hasBeginning.2.1 36 = .ok (.goto (-34), 3) := by decide +kernel
theorem dBytes_hasBeginning_39 : decode mBytes_hasBeginning.2.1 39 = .ok (.iconst 1, 1) := by decide +kernel
theorem dBytes_hasBeginning_40 : decode mBytes_hasBeginning.2.1 40 = .ok (.ireturn, 1) := by decide +kernel
theorem dBytes_dataLengthMayBe_0 : decode mBytes_dataLengthMayBe.2.1 0 = .ok (.iload_n 0, 1) := by decide +kernel
theorem dBytes_dataLengthMayBe_1 : decode mBytes_dataLengthMayBe.2.1 1 = .ok (.ifCond .lt 14, 3) := by decide +kernel
theorem dBytes_dataLengthMayBe_4 : decode mBytes_dataLengthMayBe.2.1 4 = .ok (.iload_n 0, 1) := by decide +kernel
theorem dBytes_dataLengthMayBe_5 : decode mBytes_dataLengthMayBe.2.1 5 = .ok (.sipush 255, 3) := by decide +kernel
theorem dBytes_dataLengthMayBe_8 : decode mBytes_dataLengthMayBe.2.1 8 = .ok (.if_icmp .gt 7, 3) := by decide +kernel
theorem dBytes_dataLengthMayBe_11 : decode mBytes_dataLengthMayBe.2.1 11 = .ok (.iconst 1, 1) := by decide +kernel
theorem dBytes_dataLengthMayBe_12 : decode mBytes_dataLengthMayBe.2.1 12 = .ok (.goto 4, 3) := by decide +kernel
theorem dBytes_dataLengthMayBe_15 : decode mBytes_dataLengthMayBe.2.1 15 = .ok (.iconst 0, 1) := by decide +kernel
theorem dBytes_dataLengthMayBe_16 : decode mBytes_dataLengthMayBe.2.1 16 = .ok (.ireturn, 1) := by decide +kernel
theorem dBytes_hasWholeChunk_0 : decode mBytes_hasWholeChunk.2.1 0 = .ok (.aload_n 0, 1) := by decide +kernel
theorem dBytes_hasWholeChunk_1 : decode mBytes_hasWholeChunk.2.1 1 = .ok (.getfield 13, 3) := by decide +kernel
theorem dBytes_hasWholeChunk_4 : decode mBytes_hasWholeChunk.2.1 4 = .ok (.iload_n 1, 1) := by decide +kernel
theorem dBytes_hasWholeChunk_5 : decode mBytes_hasWholeChunk.2.1 5 = .ok (.isub, 1) := by decide +kernel
theorem dBytes_hasWholeChunk_6 : decode mBytes_hasWholeChunk.2.1 6 = .ok (.bipush 12, 2) := by decide +kernel
theorem dBytes_hasWholeChunk_8 : decode mBytes_hasWholeChunk.2.1 8 = .ok (.iload_n 2, 1) := by decide +kernel
theorem dBytes_hasWholeChunk_9 : decode mBytes_hasWholeChunk.2.1 9 = .ok (.iadd, 1) := by decide +kernel
theorem dBytes_hasWholeChunk_10 : decode mBytes_hasWholeChunk.2.1 10 = .ok (.if_icmp .lt 7, 3) := by decide +kernel
theorem dBytes_hasWholeChunk_13 : decode mBytes_hasWholeChunk.2.1 13 = .ok (.iconst 1, 1) := by decide +kernel
theorem dBytes_hasWholeChunk_14 : decode mBytes_hasWholeChunk.2.1 14 = .ok (.goto 4, 3) := by decide +kernel
theorem dBytes_hasWholeChunk_17 : decode mBytes_hasWholeChunk.2.1 17 = .ok (.iconst 0, 1) := by decide +kernel
theorem dBytes_hasWholeChunk_18 : decode mBytes_hasWholeChunk.2.1 18 = .ok (.ireturn, 1) := by decide +kernel
theorem dBytes_sumIsRight_0 : decode mBytes_sumIsRight.2.1 0 = .ok (.aload_n 0, 1) := by decide +kernel
theorem dBytes_sumIsRight_1 : decode mBytes_sumIsRight.2.1 1 = .ok (.iload_n 1, 1) := by decide +kernel
theorem dBytes_sumIsRight_2 : decode mBytes_sumIsRight.2.1 2 = .ok (.iload_n 2, 1) := by decide +kernel
theorem dBytes_sumIsRight_3 : decode mBytes_sumIsRight.2.1 3 = .ok (.invokestatic 36, 3) := by decide +kernel
theorem dBytes_sumIsRight_6 : decode mBytes_sumIsRight.2.1 6 = .ok (.invokevirtual 40, 3) := by decide +kernel
theorem dBytes_sumIsRight_9 : decode mBytes_sumIsRight.2.1 9 = .ok (.aload_n 0, 1) := by decide +kernel
theorem dBytes_sumIsRight_10 : decode mBytes_sumIsRight.2.1 10 = .ok (.iload_n 1, 1) := by decide +kernel
theorem dBytes_sumIsRight_11 : decode mBytes_sumIsRight.2.1 11 = .ok (.iload_n 2, 1) := by decide +kernel
theorem dBytes_sumIsRight_12 : decode mBytes_sumIsRight.2.1 12 = .ok (.invokevirtual 43, 3) := by decide +kernel
theorem dBytes_sumIsRight_15 : decode mBytes_sumIsRight.2.1 15 = .ok (.if_icmp .ne 7, 3) := by decide +kernel
theorem dBytes_sumIsRight_18 : decode mBytes_sumIsRight.2.1 18 = .ok (.iconst 1, 1) := by decide +kernel
theorem dBytes_sumIsRight_19 : decode mBytes_sumIsRight.2.1 19 = .ok (.goto 4, 3) := by decide +kernel
theorem dBytes_sumIsRight_22 : decode mBytes_sumIsRight.2.1 22 = .ok (.iconst 0, 1) := by decide +kernel
theorem dBytes_sumIsRight_23 : decode mBytes_sumIsRight.2.1 23 = .ok (.ireturn, 1) := by decide +kernel
theorem dBytes_rightSum_0 : decode mBytes_rightSum.2.1 0 = .ok (.iload_n 1, 1) := by decide +kernel
theorem dBytes_rightSum_1 : decode mBytes_rightSum.2.1 1 = .ok (.iload_n 2, 1) := by decide +kernel
theorem dBytes_rightSum_2 : decode mBytes_rightSum.2.1 2 = .ok (.invokestatic 36, 3) := by decide +kernel
theorem dBytes_rightSum_5 : decode mBytes_rightSum.2.1 5 = .ok (.istore_n 3, 1) := by decide +kernel
theorem dBytes_rightSum_6 : decode mBytes_rightSum.2.1 6 = .ok (.iconst (-1), 1) := by decide +kernel
theorem dBytes_rightSum_7 : decode mBytes_rightSum.2.1 7 = .ok (.istore 4, 2) := by decide +kernel
theorem dBytes_rightSum_9 : decode mBytes_rightSum.2.1 9 = .ok (.iload_n 1, 1) := by decide +kernel
theorem dBytes_rightSum_10 : decode mBytes_rightSum.2.1 10 = .ok (.iconst 4, 1) := by decide +kernel
theorem dBytes_rightSum_11 : decode mBytes_rightSum.2.1 11 = .ok (.iadd, 1) := by decide +kernel
theorem dBytes_rightSum_12 : decode mBytes_rightSum.2.1 12 = .ok (.istore 5, 2) := by decide +kernel
theorem dBytes_rightSum_14 : decode mBytes_rightSum.2.1 14 = .ok (.iload 5, 2) := by decide +kernel
theorem dBytes_rightSum_16 : decode mBytes_rightSum.2.1 16 = .ok (.iload_n 3, 1) := by decide +kernel
theorem dBytes_rightSum_17 : decode mBytes_rightSum.2.1 17 = .ok (.if_icmp .ge 52, 3) := by decide +kernel
theorem dBytes_rightSum_20 : decode mBytes_rightSum.2.1 20 = .ok (.iload 4, 2) := by decide +kernel
theorem dBytes_rightSum_22 : decode mBytes_rightSum.2.1 22 = .ok (.aload_n 0, 1) := by decide +kernel
theorem dBytes_rightSum_23 : decode mBytes_rightSum.2.1 23 = .ok (.iload 5, 2) := by decide +kernel
theorem dBytes_rightSum_25 : decode mBytes_rightSum.2.1 25 = .ok (.invokevirtual 21, 3) := by decide +kernel
theorem dBytes_rightSum_28 : decode mBytes_rightSum.2.1 28 = .ok (.ixor, 1) := by decide +kernel
theorem dBytes_rightSum_29 : decode mBytes_rightSum.2.1 29 = .ok (.istore 4, 2) := by decide +kernel
theorem dBytes_rightSum_31 : decode mBytes_rightSum.2.1 31 = .ok (.iload 4, 2) := by decide +kernel
theorem dBytes_rightSum_33 : decode mBytes_rightSum.2.1 33 = .ok (.iconst 4, 1) := by decide +kernel
theorem dBytes_rightSum_34 : decode mBytes_rightSum.2.1 34 = .ok (.iushr, 1) := by decide +kernel
theorem dBytes_rightSum_35 : decode mBytes_rightSum.2.1 35 = .ok (.getstatic 46, 3) := by decide +kernel
theorem dBytes_rightSum_38 : decode mBytes_rightSum.2.1 38 = .ok (.iload 4, 2) := by decide +kernel
theorem dBytes_rightSum_40 : decode mBytes_rightSum.2.1 40 = .ok (.bipush 15, 2) := by decide +kernel
theorem dBytes_rightSum_42 : decode mBytes_rightSum.2.1 42 = .ok (.iand, 1) := by decide +kernel
theorem dBytes_rightSum_43 : decode mBytes_rightSum.2.1 43 = .ok (.iaload, 1) := by decide +kernel
theorem dBytes_rightSum_44 : decode mBytes_rightSum.2.1 44 = .ok (.ixor, 1) := by decide +kernel
theorem dBytes_rightSum_45 : decode mBytes_rightSum.2.1 45 = .ok (.istore 4, 2) := by decide +kernel
theorem dBytes_rightSum_47 : decode mBytes_rightSum.2.1 47 = .ok (.iload 4, 2) := by decide +kernel
theorem dBytes_rightSum_49 : decode mBytes_rightSum.2.1 49 = .ok (.iconst 4, 1) := by decide +kernel
theorem dBytes_rightSum_50 : decode mBytes_rightSum.2.1 50 = .ok (.iushr, 1) := by decide +kernel
theorem dBytes_rightSum_51 : decode mBytes_rightSum.2.1 51 = .ok (.getstatic 46, 3) := by decide +kernel
theorem dBytes_rightSum_54 : decode mBytes_rightSum.2.1 54 = .ok (.iload 4, 2) := by decide +kernel
theorem dBytes_rightSum_56 : decode mBytes_rightSum.2.1 56 = .ok (.bipush 15, 2) := by decide +kernel
theorem dBytes_rightSum_58 : decode mBytes_rightSum.2.1 58 = .ok (.iand, 1) := by decide +kernel
theorem dBytes_rightSum_59 : decode mBytes_rightSum.2.1 59 = .ok (.iaload, 1) := by decide +kernel
theorem dBytes_rightSum_60 : decode mBytes_rightSum.2.1 60 = .ok (.ixor, 1) := by decide +kernel
theorem dBytes_rightSum_61 : decode mBytes_rightSum.2.1 61 = .ok (.istore 4, 2) := by decide +kernel
theorem dBytes_rightSum_63 : decode mBytes_rightSum.2.1 63 = .ok (.iinc 5 1, 3) := by decide +kernel
theorem dBytes_rightSum_66 : decode mBytes_rightSum.2.1 66 = .ok (.goto (-52), 3) := by decide +kernel
theorem dBytes_rightSum_69 : decode mBytes_rightSum.2.1 69 = .ok (.iload 4, 2) := by decide +kernel
theorem dBytes_rightSum_71 : decode mBytes_rightSum.2.1 71 = .ok (.iconst (-1), 1) := by decide +kernel
theorem dBytes_rightSum_72 : decode mBytes_rightSum.2.1 72 = .ok (.ixor, 1) := by decide +kernel
theorem dBytes_rightSum_73 : decode mBytes_rightSum.2.1 73 = .ok (.ireturn, 1) := by decide +kernel
theorem dBytes_mendSum_0 : decode mBytes_mendSum.2.1 0 = .ok (.iconst 0, 1) := by decide +kernel
theorem dBytes_mendSum_1 : decode mBytes_mendSum.2.1 1 = .ok (.istore_n 2, 1) := by decide +kernel
theorem dBytes_mendSum_2 : decode mBytes_mendSum.2.1 2 = .ok (.bipush 8, 2) := by decide +kernel
theorem dBytes_mendSum_4 : decode mBytes_mendSum.2.1 4 = .ok (.istore_n 3, 1) := by decide +kernel
theorem dBytes_mendSum_5 : decode mBytes_mendSum.2.1 5 = .ok (.iload_n 3, 1) := by decide +kernel
theorem dBytes_mendSum_6 : decode mBytes_mendSum.2.1 6 = .ok (.iload_n 1, 1) := by decide +kernel
theorem dBytes_mendSum_7 : decode mBytes_mendSum.2.1 7 = .ok (.if_icmp .gt 72, 3) := by decide +kernel
theorem dBytes_mendSum_10 : decode mBytes_mendSum.2.1 10 = .ok (.aload_n 0, 1) := by decide +kernel
theorem dBytes_mendSum_11 : decode mBytes_mendSum.2.1 11 = .ok (.iload_n 3, 1) := by decide +kernel
theorem dBytes_mendSum_12 : decode mBytes_mendSum.2.1 12 = .ok (.iconst 0, 1) := by decide +kernel
theorem dBytes_mendSum_13 : decode mBytes_mendSum.2.1 13 = .ok (.invokevirtual 49, 3) := by decide +kernel
theorem dBytes_mendSum_16 : decode mBytes_mendSum.2.1 16 = .ok (.ifCond .ne 4, 3) := by decide +kernel
theorem dBytes_mendSum_19 : decode mBytes_mendSum.2.1 19 = .ok (.return_, 1) := by decide +kernel
theorem dBytes_mendSum_20 : decode mBytes_mendSum.2.1 20 = .ok (.aload_n 0, 1) := by decide +kernel
theorem dBytes_mendSum_21 : decode mBytes_mendSum.2.1 21 = .ok (.iload_n 3, 1) := by decide +kernel
theorem dBytes_mendSum_22 : decode mBytes_mendSum.2.1 22 = .ok (.invokevirtual 40, 3) := by decide +kernel
theorem dBytes_mendSum_25 : decode mBytes_mendSum.2.1 25 = .ok (.istore_n 2, 1) := by decide +kernel
theorem dBytes_mendSum_26 : decode mBytes_mendSum.2.1 26 = .ok (.iload_n 2, 1) := by decide +kernel
theorem dBytes_mendSum_27 : decode mBytes_mendSum.2.1 27 = .ok (.invokestatic 53, 3) := by decide +kernel
theorem dBytes_mendSum_30 : decode mBytes_mendSum.2.1 30 = .ok (.ifCond .eq 12, 3) := by decide +kernel
theorem dBytes_mendSum_33 : decode mBytes_mendSum.2.1 33 = .ok (.aload_n 0, 1) := by decide +kernel
theorem dBytes_mendSum_34 : decode mBytes_mendSum.2.1 34 = .ok (.iload_n 3, 1) := by decide +kernel
theorem dBytes_mendSum_35 : decode mBytes_mendSum.2.1 35 = .ok (.iload_n 2, 1) := by decide +kernel
theorem dBytes_mendSum_36 : decode mBytes_mendSum.2.1 36 = .ok (.invokevirtual 49, 3) := by decide +kernel
theorem dBytes_mendSum_39 : decode mBytes_mendSum.2.1 39 = .ok (.ifCond .ne 4, 3) := by decide +kernel
theorem dBytes_mendSum_42 : decode mBytes_mendSum.2.1 42 = .ok (.return_, 1) := by decide +kernel
theorem dBytes_mendSum_43 : decode mBytes_mendSum.2.1 43 = .ok (.iload_n 1, 1) := by decide +kernel
theorem dBytes_mendSum_44 : decode mBytes_mendSum.2.1 44 = .ok (.iload_n 3, 1) := by decide +kernel
theorem dBytes_mendSum_45 : decode mBytes_mendSum.2.1 45 = .ok (.bipush 12, 2) := by decide +kernel
theorem dBytes_mendSum_47 : decode mBytes_mendSum.2.1 47 = .ok (.iadd, 1) := by decide +kernel
theorem dBytes_mendSum_48 : decode mBytes_mendSum.2.1 48 = .ok (.iload_n 2, 1) := by decide +kernel
theorem dBytes_mendSum_49 : decode mBytes_mendSum.2.1 49 = .ok (.iadd, 1) := by decide +kernel
theorem dBytes_mendSum_50 : decode mBytes_mendSum.2.1 50 = .ok (.if_icmp .ge 19, 3) := by decide +kernel
theorem dBytes_mendSum_53 : decode mBytes_mendSum.2.1 53 = .ok (.aload_n 0, 1) := by decide +kernel
theorem dBytes_mendSum_54 : decode mBytes_mendSum.2.1 54 = .ok (.iload_n 3, 1) := by decide +kernel
theorem dBytes_mendSum_55 : decode mBytes_mendSum.2.1 55 = .ok (.iload_n 2, 1) := by decide +kernel
theorem dBytes_mendSum_56 : decode mBytes_mendSum.2.1 56 = .ok (.invokestatic 36, 3) := by decide +kernel
theorem dBytes_mendSum_59 : decode mBytes_mendSum.2.1 59 = .ok (.aload_n 0, 1) := by decide +kernel
theorem dBytes_mendSum_60 : decode mBytes_mendSum.2.1 60 = .ok (.iload_n 3, 1) := by decide +kernel
theorem dBytes_mendSum_61 : decode mBytes_mendSum.2.1 61 = .ok (.iload_n 2, 1) := by decide +kernel
theorem dBytes_mendSum_62 : decode mBytes_mendSum.2.1 62 = .ok (.invokevirtual 43, 3) := by decide +kernel
theorem dBytes_mendSum_65 : decode mBytes_mendSum.2.1 65 = .ok (.invokevirtual 56, 3) := by decide +kernel
theorem dBytes_mendSum_68 : decode mBytes_mendSum.2.1 68 = .ok (.return_, 1) := by decide +kernel
theorem dBytes_mendSum_69 : decode mBytes_mendSum.2.1 69 = .ok (.iload_n 3, 1) := by decide +kernel
theorem dBytes_mendSum_70 : decode mBytes_mendSum.2.1 70 = .ok (.bipush 12, 2) := by decide +kernel
theorem dBytes_mendSum_72 : decode mBytes_mendSum.2.1 72 = .ok (.iload_n 2, 1) := by decide +kernel
theorem dBytes_mendSum_73 : decode mBytes_mendSum.2.1 73 = .ok (.iadd, 1) := by decide +kernel
theorem dBytes_mendSum_74 : decode mBytes_mendSum.2.1 74 = .ok (.iadd, 1) := by decide +kernel
theorem dBytes_mendSum_75 : decode mBytes_mendSum.2.1 75 = .ok (.istore_n 3, 1) := by decide +kernel
theorem dBytes_mendSum_76 : decode mBytes_mendSum.2.1 76 = .ok (.goto (-71), 3) := by decide +kernel
theorem dBytes_mendSum_79 : decode mBytes_mendSum.2.1 79 = .ok (.return_, 1) := by decide +kernel
theorem dBytes_sumPlace_0 : decode mBytes_sumPlace.2.1 0 = .ok (.iload_n 0, 1) := by decide +kernel
theorem dBytes_sumPlace_1 : decode mBytes_sumPlace.2.1 1 = .ok (.bipush 8, 2) := by decide +kernel
theorem dBytes_sumPlace_3 : decode mBytes_sumPlace.2.1 3 = .ok (.iadd, 1) := by decide +kernel
theorem dBytes_sumPlace_4 : decode mBytes_sumPlace.2.1 4 = .ok (.iload_n 1, 1) := by decide +kernel
theorem dBytes_sumPlace_5 : decode mBytes_sumPlace.2.1 5 = .ok (.iadd, 1) := by decide +kernel
theorem dBytes_sumPlace_6 : decode mBytes_sumPlace.2.1 6 = .ok (.ireturn, 1) := by decide +kernel
theorem dExtras_init_0 : decode mExtras_init.2.1 0 = .ok (.aload_n 0, 1) := by decide +kernel
theorem dExtras_init_1 : decode mExtras_init.2.1 1 = .ok (.invokespecial 1, 3) := by decide +kernel
theorem dExtras_init_4 : decode mExtras_init.2.1 4 = .ok (.aload_n 0, 1) := by decide +kernel
theorem dExtras_init_5 : decode mExtras_init.2.1 5 = .ok (.bipush 6, 2) := by decide +kernel
theorem dExtras_init_7 : decode mExtras_init.2.1 7 = .ok (.newarray .int, 2) := by decide +kernel
theorem dExtras_init_9 : decode mExtras_init.2.1 9 = .ok (.putfield 9, 3) := by decide +kernel
theorem dExtras_init_12 : decode mExtras_init.2.1 12 = .ok (.aload_n 0, 1) := by decide +kernel
theorem dExtras_init_13 : decode mExtras_init.2.1 13 = .ok (.bipush 6, 2) := by decide +kernel
theorem dExtras_init_15 : decode mExtras_init.2.1 15 = .ok (.newarray .int, 2) := by decide +kernel
theorem dExtras_init_17 : decode mExtras_init.2.1 17 = .ok (.putfield 13, 3) := by decide +kernel
theorem dExtras_init_20 : decode mExtras_init.2.1 20 = .ok (.aload_n 0, 1) := by decide +kernel
theorem dExtras_init_21 : decode mExtras_init.2.1 21 = .ok (.sipush 240, 3) := by decide +kernel
theorem dExtras_init_24 : decode mExtras_init.2.1 24 = .ok (.newarray .int, 2) := by decide +kernel
theorem dExtras_init_26 : decode mExtras_init.2.1 26 = .ok (.putfield 16, 3) := by decide +kernel
theorem dExtras_init_29 : decode mExtras_init.2.1 29 = .ok (.return_, 1) := by decide +kernel
theorem dExtras_clear_0 : decode mExtras_clear.2.1 0 = .ok (.aload_n 0, 1) := by decide +kernel
theorem dExtras_clear_1 : decode mExtras_clear.2.1 1 = .ok (.iconst 0, 1) := by decide +kernel
theorem dExtras_clear_2 : decode mExtras_clear.2.1 2 = .ok (.putfield 19, 3) := by decide +kernel
theorem dExtras_clear_5 : decode mExtras_clear.2.1 5 = .ok (.return_, 1) := by decide +kernel
theorem dExtras_isFull_0 : decode mExtras_isFull.2.1 0 = .ok (.aload_n 0, 1) := by decide +kernel
theorem dExtras_isFull_1 : decode mExtras_isFull.2.1 1 = .ok (.getfield 19, 3) := by decide +kernel
theorem dExtras_isFull_4 : decode mExtras_isFull.2.1 4 = .ok (.bipush 6, 2) := by decide +kernel
theorem dExtras_isFull_6 : decode mExtras_isFull.2.1 6 = .ok (.if_icmp .lt 7, 3) := by decide +kernel
theorem dExtras_isFull_9 : decode mExtras_isFull.2.1 9 = .ok (.iconst 1, 1) := by decide +kernel
theorem dExtras_isFull_10 : decode mExtras_isFull.2.1 10 = .ok (.goto 4, 3) := by decide +kernel
theorem dExtras_isFull_13 : decode mExtras_isFull.2.1 13 = .ok (.iconst 0, 1) := by decide +kernel
theorem dExtras_isFull_14 : decode mExtras_isFull.2.1 14 = .ok (.ireturn, 1) := by decide +kernel
theorem dExtras_has_0 : decode mExtras_has.2.1 0 = .ok (.iload_n 1, 1) := by decide +kernel
theorem dExtras_has_1 : decode mExtras_has.2.1 1 = .ok (.ifCond .lt 15, 3) := by decide +kernel
theorem dExtras_has_4 : decode mExtras_has.2.1 4 = .ok (.iload_n 1, 1) := by decide +kernel
theorem dExtras_has_5 : decode mExtras_has.2.1 5 = .ok (.aload_n 0, 1) := by decide +kernel
theorem dExtras_has_6 : decode mExtras_has.2.1 6 = .ok (.getfield 19, 3) := by decide +kernel
theorem dExtras_has_9 : decode mExtras_has.2.1 9 = .ok (.if_icmp .ge 7, 3) := by decide +kernel
theorem dExtras_has_12 : decode mExtras_has.2.1 12 = .ok (.iconst 1, 1) := by decide +kernel
theorem dExtras_has_13 : decode mExtras_has.2.1 13 = .ok (.goto 4, 3) := by decide +kernel
theorem dExtras_has_16 : decode mExtras_has.2.1 16 = .ok (.iconst 0, 1) := by decide +kernel
theorem dExtras_has_17 : decode mExtras_has.2.1 17 = .ok (.ireturn, 1) := by decide +kernel
theorem dExtras_lettersOf_0 : decode mExtras_lettersOf.2.1 0 = .ok (.aload_n 0, 1) := by decide +kernel
theorem dExtras_lettersOf_1 : decode mExtras_lettersOf.2.1 1 = .ok (.iload_n 1, 1) := by decide +kernel
theorem dExtras_lettersOf_2 : decode mExtras_lettersOf.2.1 2 = .ok (.invokevirtual 23, 3) := by decide +kernel
theorem dExtras_lettersOf_5 : decode mExtras_lettersOf.2.1 5 = .ok (.ifCond .eq 12, 3) := by decide +kernel
theorem dExtras_lettersOf_8 : decode mExtras_lettersOf.2.1 8 = .ok (.aload_n 0, 1) := by decide +kernel
theorem dExtras_lettersOf_9 : decode mExtras_lettersOf.2.1 9 = .ok (.getfield 9, 3) := by decide +kernel
theorem dExtras_lettersOf_12 : decode mExtras_lettersOf.2.1 12 = .ok (.iload_n 1, 1) := by decide +kernel
theorem dExtras_lettersOf_13 : decode mExtras_lettersOf.2.1 13 = .ok (.iaload, 1) := by decide +kernel
theorem dExtras_lettersOf_14 : decode mExtras_lettersOf.2.1 14 = .ok (.goto 4, 3) := by decide +kernel
theorem dExtras_lettersOf_17 : decode mExtras_lettersOf.2.1 17 = .ok (.iconst 0, 1) := by decide +kernel
theorem dExtras_lettersOf_18 : decode mExtras_lettersOf.2.1 18 = .ok (.ireturn, 1) := by decide +kernel
theorem dExtras_lengthOf_0 : decode mExtras_lengthOf.2.1 0 = .ok (.aload_n 0, 1) := by decide +kernel
theorem dExtras_lengthOf_1 : decode mExtras_lengthOf.2.1 1 = .ok (.iload_n 1, 1) := by decide +kernel
theorem dExtras_lengthOf_2 : decode mExtras_lengthOf.2.1 2 = .ok (.invokevirtual 23, 3) := by decide +kernel
theorem dExtras_lengthOf_5 : decode mExtras_lengthOf.2.1 5 = .ok (.ifCond .eq 12, 3) := by decide +kernel
theorem dExtras_lengthOf_8 : decode mExtras_lengthOf.2.1 8 = .ok (.aload_n 0, 1) := by decide +kernel
theorem dExtras_lengthOf_9 : decode mExtras_lengthOf.2.1 9 = .ok (.getfield 13, 3) := by decide +kernel
theorem dExtras_lengthOf_12 : decode mExtras_lengthOf.2.1 12 = .ok (.iload_n 1, 1) := by decide +kernel
theorem dExtras_lengthOf_13 : decode mExtras_lengthOf.2.1 13 = .ok (.iaload, 1) := by decide +kernel
theorem dExtras_lengthOf_14 : decode mExtras_lengthOf.2.1 14 = .ok (.goto 4, 3) := by decide +kernel
theorem dExtras_lengthOf_17 : decode mExtras_lengthOf.2.1 17 = .ok (.iconst 0, 1) := by decide +kernel
theorem dExtras_lengthOf_18 : decode mExtras_lengthOf.2.1 18 = .ok (.ireturn, 1) := by decide +kernel
theorem dExtras_value_0 : decode mExtras_value.2.1 0 = .ok (.iload_n 2, 1) := by decide +kernel
theorem dExtras_value_1 : decode mExtras_value.2.1 1 = .ok (.ifCond .lt 26, 3) := by decide +kernel
theorem dExtras_value_4 : decode mExtras_value.2.1 4 = .ok (.iload_n 2, 1) := by decide +kernel
theorem dExtras_value_5 : decode mExtras_value.2.1 5 = .ok (.aload_n 0, 1) := by decide +kernel
theorem dExtras_value_6 : decode mExtras_value.2.1 6 = .ok (.iload_n 1, 1) := by decide +kernel
theorem dExtras_value_7 : decode mExtras_value.2.1 7 = .ok (.invokevirtual 27, 3) := by decide +kernel
theorem dExtras_value_10 : decode mExtras_value.2.1 10 = .ok (.if_icmp .ge 17, 3) := by decide +kernel
theorem dExtras_value_13 : decode mExtras_value.2.1 13 = .ok (.aload_n 0, 1) := by decide +kernel
theorem dExtras_value_14 : decode mExtras_value.2.1 14 = .ok (.getfield 16, 3) := by decide +kernel
theorem dExtras_value_17 : decode mExtras_value.2.1 17 = .ok (.iload_n 1, 1) := by decide +kernel
theorem dExtras_value_18 : decode mExtras_value.2.1 18 = .ok (.bipush 40, 2) := by decide +kernel
theorem dExtras_value_20 : decode mExtras_value.2.1 20 = .ok (.imul, 1) := by decide +kernel
theorem dExtras_value_21 : decode mExtras_value.2.1 21 = .ok (.iload_n 2, 1) := by decide +kernel
theorem dExtras_value_22 : decode mExtras_value.2.1 22 = .ok (.iadd, 1) := by decide +kernel
theorem dExtras_value_23 : decode mExtras_value.2.1 23 = .ok (.iaload, 1) := by decide +kernel
theorem dExtras_value_24 : decode mExtras_value.2.1 24 = .ok (.goto 4, 3) := by decide +kernel
theorem dExtras_value_27 : decode mExtras_value.2.1 27 = .ok (.iconst 0, 1) := by decide +kernel
theorem dExtras_value_28 : decode mExtras_value.2.1 28 = .ok (.ireturn, 1) := by decide +kernel
theorem dExtras_add_0 : decode mExtras_add.2.1 0 = .ok (.aload_n 0, 1) := by decide +kernel
theorem dExtras_add_1 : decode mExtras_add.2.1 1 = .ok (.invokevirtual 31, 3) := by decide +kernel
theorem dExtras_add_4 : decode mExtras_add.2.1 4 = .ok (.ifCond .ne 33, 3) := by decide +kernel
theorem dExtras_add_7 : decode mExtras_add.2.1 7 = .ok (.aload_n 0, 1) := by decide +kernel
theorem dExtras_add_8 : decode mExtras_add.2.1 8 = .ok (.getfield 9, 3) := by decide +kernel
theorem dExtras_add_11 : decode mExtras_add.2.1 11 = .ok (.aload_n 0, 1) := by decide +kernel
theorem dExtras_add_12 : decode mExtras_add.2.1 12 = .ok (.getfield 19, 3) := by decide +kernel
theorem dExtras_add_15 : decode mExtras_add.2.1 15 = .ok (.iload_n 1, 1) := by decide +kernel
theorem dExtras_add_16 : decode mExtras_add.2.1 16 = .ok (.iastore, 1) := by decide +kernel
theorem dExtras_add_17 : decode mExtras_add.2.1 17 = .ok (.aload_n 0, 1) := by decide +kernel
theorem dExtras_add_18 : decode mExtras_add.2.1 18 = .ok (.getfield 13, 3) := by decide +kernel
theorem dExtras_add_21 : decode mExtras_add.2.1 21 = .ok (.aload_n 0, 1) := by decide +kernel
theorem dExtras_add_22 : decode mExtras_add.2.1 22 = .ok (.getfield 19, 3) := by decide +kernel
theorem dExtras_add_25 : decode mExtras_add.2.1 25 = .ok (.iconst 0, 1) := by decide +kernel
theorem dExtras_add_26 : decode mExtras_add.2.1 26 = .ok (.iastore, 1) := by decide +kernel
theorem dExtras_add_27 : decode mExtras_add.2.1 27 = .ok (.aload_n 0, 1) := by decide +kernel
theorem dExtras_add_28 : decode mExtras_add.2.1 28 = .ok (.dup, 1) := by decide +kernel
theorem dExtras_add_29 : decode mExtras_add.2.1 29 = .ok (.getfield 19, 3) := by decide +kernel
theorem dExtras_add_32 : decode mExtras_add.2.1 32 = .ok (.iconst 1, 1) := by decide +kernel
theorem dExtras_add_33 : decode mExtras_add.2.1 33 = .ok (.iadd, 1) := by decide +kernel
theorem dExtras_add_34 : decode mExtras_add.2.1 34 = .ok (.putfield 19, 3) := by decide +kernel
theorem dExtras_add_37 : decode mExtras_add.2.1 37 = .ok (.return_, 1) := by decide +kernel
theorem dExtras_addByte_0 : decode mExtras_addByte.2.1 0 = .ok (.aload_n 0, 1) := by decide +kernel
theorem dExtras_addByte_1 : decode mExtras_addByte.2.1 1 = .ok (.iload_n 1, 1) := by decide +kernel
theorem dExtras_addByte_2 : decode mExtras_addByte.2.1 2 = .ok (.invokevirtual 23, 3) := by decide +kernel
theorem dExtras_addByte_5 : decode mExtras_addByte.2.1 5 = .ok (.ifCond .eq 41, 3) := by decide +kernel
theorem dExtras_addByte_8 : decode mExtras_addByte.2.1 8 = .ok (.aload_n 0, 1) := by decide +kernel
theorem dExtras_addByte_9 : decode mExtras_addByte.2.1 9 = .ok (.getfield 13, 3) := by decide +kernel
theorem dExtras_addByte_12 : decode mExtras_addByte.2.1 12 = .ok (.iload_n 1, 1) := by decide +kernel
theorem dExtras_addByte_13 : decode mExtras_addByte.2.1 13 = .ok (.iaload, 1) := by decide +kernel
theorem dExtras_addByte_14 : decode mExtras_addByte.2.1 14 = .ok (.bipush 40, 2) := by decide +kernel
theorem dExtras_addByte_16 : decode mExtras_addByte.2.1 16 = .ok (.if_icmp .ge 30, 3) := by decide +kernel
theorem dExtras_addByte_19 : decode mExtras_addByte.2.1 19 = .ok (.aload_n 0, 1) := by decide +kernel
theorem dExtras_addByte_20 : decode mExtras_addByte.2.1 20 = .ok (.getfield 16, 3) := by decide +kernel
theorem dExtras_addByte_23 : decode mExtras_addByte.2.1 23 = .ok (.iload_n 1, 1) := by decide +kernel
theorem dExtras_addByte_24 : decode mExtras_addByte.2.1 24 = .ok (.bipush 40, 2) := by decide +kernel
theorem dExtras_addByte_26 : decode mExtras_addByte.2.1 26 = .ok (.imul, 1) := by decide +kernel
theorem dExtras_addByte_27 : decode mExtras_addByte.2.1 27 = .ok (.aload_n 0, 1) := by decide +kernel
theorem dExtras_addByte_28 : decode mExtras_addByte.2.1 28 = .ok (.getfield 13, 3) := by decide +kernel
theorem dExtras_addByte_31 : decode mExtras_addByte.2.1 31 = .ok (.iload_n 1, 1) := by decide +kernel
theorem dExtras_addByte_32 : decode mExtras_addByte.2.1 32 = .ok (.iaload, 1) := by decide +kernel
theorem dExtras_addByte_33 : decode mExtras_addByte.2.1 33 = .ok (.iadd, 1) := by decide +kernel
theorem dExtras_addByte_34 : decode mExtras_addByte.2.1 34 = .ok (.iload_n 2, 1) := by decide +kernel
theorem dExtras_addByte_35 : decode mExtras_addByte.2.1 35 = .ok (.iastore, 1) := by decide +kernel
theorem dExtras_addByte_36 : decode mExtras_addByte.2.1 36 = .ok (.aload_n 0, 1) := by decide +kernel
theorem dExtras_addByte_37 : decode mExtras_addByte.2.1 37 = .ok (.getfield 13, 3) := by decide +kernel
theorem dExtras_addByte_40 : decode mExtras_addByte.2.1 40 = .ok (.iload_n 1, 1) := by decide +kernel
theorem dExtras_addByte_41 : decode mExtras_addByte.2.1 41 = .ok (.dup2, 1) := by decide +kernel
theorem dExtras_addByte_42 : decode mExtras_addByte.2.1 42 = .ok (.iaload, 1) := by decide +kernel
theorem dExtras_addByte_43 : decode mExtras_addByte.2.1 43 = .ok (.iconst 1, 1) := by decide +kernel
theorem dExtras_addByte_44 : decode mExtras_addByte.2.1 44 = .ok (.iadd, 1) := by decide +kernel
theorem dExtras_addByte_45 : decode mExtras_addByte.2.1 45 = .ok (.iastore, 1) := by decide +kernel
theorem dExtras_addByte_46 : decode mExtras_addByte.2.1 46 = .ok (.return_, 1) := by decide +kernel
theorem dExtras_leaveOnlySafeOnes_0 : decode mExtras_leaveOnlySafeOnes.2.1 0 = .ok (.iconst 0, 1) := by decide +kernel
theorem dExtras_leaveOnlySafeOnes_1 : decode mExtras_leaveOnlySafeOnes.2.1 1 = .ok (.istore_n 1, 1) := by decide +kernel
theorem dExtras_leaveOnlySafeOnes_2 : decode mExtras_leaveOnlySafeOnes.2.1 2 = .ok (.iconst 0, 1) := by decide +kernel
theorem dExtras_leaveOnlySafeOnes_3 : decode mExtras_leaveOnlySafeOnes.2.1 3 = .ok (.istore_n 2, 1) := by decide +kernel
theorem dExtras_leaveOnlySafeOnes_4 : decode mExtras_leaveOnlySafeOnes.2.1 4 = .ok (.iload_n 2, 1) := by decide +kernel
theorem dExtras_leaveOnlySafeOnes_5 : decode mExtras_leaveOnlySafeOnes.2.1 5 = .ok (.aload_n 0, 1) := by decide +kernel
theorem dExtras_leaveOnlySafeOnes_6 : decode mExtras_leaveOnlySafeOnes.2.1 6 = .ok (.getfield 19, 3) := by decide +kernel
theorem dExtras_leaveOnlySafeOnes_9 : decode mExtras_leaveOnlySafeOnes.2.1 9 = .ok (.if_icmp .ge 30, 3) := by decide +kernel
theorem dExtras_leaveOnlySafeOnes_12 : decode mExtras_leaveOnlySafeOnes.2.1 12 = .ok (.aload_n 0, 1) := by decide +kernel
theorem dExtras_leaveOnlySafeOnes_13 : decode mExtras_leaveOnlySafeOnes.2.1 13 = .ok (.getfield 9, 3) := by decide +kernel
theorem dExtras_leaveOnlySafeOnes_16 : decode mExtras_leaveOnlySafeOnes.2.1 16 = .ok (.iload_n 2, 1) := by decide +kernel
theorem dExtras_leaveOnlySafeOnes_17 : decode mExtras_leaveOnlySafeOnes.2.1 17 = .ok (.iaload, 1) := by decide +kernel
theorem dExtras_leaveOnlySafeOnes_18 : decode mExtras_leaveOnlySafeOnes.2.1 18 = .ok (.invokestatic 35, 3) := by decide +kernel
theorem dExtras_leaveOnlySafeOnes_21 : decode mExtras_leaveOnlySafeOnes.2.1 21 = .ok (.ifCond .ne 12, 3) := by decide +kernel
theorem dExtras_leaveOnlySafeOnes_24 : decode mExtras_leaveOnlySafeOnes.2.1 24 = .ok (.aload_n 0, 1) := by decide +kernel
theorem dExtras_leaveOnlySafeOnes_25 : decode mExtras_leaveOnlySafeOnes.2.1 25 = .ok (.iload_n 2, 1) := by decide +kernel
theorem dExtras_leaveOnlySafeOnes_26 : decode mExtras_leaveOnlySafeOnes.2.1 26 = .ok (.iload_n 1, 1) := by decide +kernel
theorem dExtras_leaveOnlySafeOnes_27 : decode mExtras_leaveOnlySafeOnes.2.1 27 = .ok (.invokevirtual 40, 3) := by decide +kernel
theorem dExtras_leaveOnlySafeOnes_30 : decode mExtras_leaveOnlySafeOnes.2.1 30 = .ok (.iinc 1 1, 3) := by decide +kernel
theorem dExtras_leaveOnlySafeOnes_33 : decode mExtras_leaveOnlySafeOnes.2.1 33 = .ok (.iinc 2 1, 3) := by decide +kernel
theorem dExtras_leaveOnlySafeOnes_36 : decode mExtras_leaveOnlySafeOnes.2.1 36 = .ok (.goto (-32), 3) := by decide +kernel
theorem dExtras_leaveOnlySafeOnes_39 : decode mExtras_leaveOnlySafeOnes.2.1 39 = .ok (.aload_n 0, 1) := by decide +kernel
theorem dExtras_leaveOnlySafeOnes_40 : decode mExtras_leaveOnlySafeOnes.2.1 40 = .ok (.iload_n 1, 1) := by decide +kernel
theorem dExtras_leaveOnlySafeOnes_41 : decode mExtras_leaveOnlySafeOnes.2.1 41 = .ok (.putfield 19, 3) := by decide +kernel
theorem dExtras_leaveOnlySafeOnes_44 : decode mExtras_leaveOnlySafeOnes.2.1 44 = .ok (.return_, 1) := by decide +kernel
theorem dExtras_copyFrom_0 : decode mExtras_copyFrom.2.1 0 = .ok (.aload_n 0, 1) := by decide +kernel
theorem dExtras_copyFrom_1 : decode mExtras_copyFrom.2.1 1 = .ok (.aload_n 1, 1) := by decide +kernel
theorem dExtras_copyFrom_2 : decode mExtras_copyFrom.2.1 2 = .ok (.getfield 19, 3) := by decide +kernel
theorem dExtras_copyFrom_5 : decode mExtras_copyFrom.2.1 5 = .ok (.putfield 19, 3) := by decide +kernel
theorem dExtras_copyFrom_8 : decode mExtras_copyFrom.2.1 8 = .ok (.aload_n 1, 1) := by decide +kernel
theorem dExtras_copyFrom_9 : decode mExtras_copyFrom.2.1 9 = .ok (.getfield 9, 3) := by decide +kernel
theorem dExtras_copyFrom_12 : decode mExtras_copyFrom.2.1 12 = .ok (.iconst 0, 1) := by decide +kernel
theorem dExtras_copyFrom_13 : decode mExtras_copyFrom.2.1 13 = .ok (.aload_n 0, 1) := by decide +kernel
theorem dExtras_copyFrom_14 : decode mExtras_copyFrom.2.1 14 = .ok (.getfield 9, 3) := by decide +kernel
theorem dExtras_copyFrom_17 : decode mExtras_copyFrom.2.1 17 = .ok (.iconst 0, 1) := by decide +kernel
theorem dExtras_copyFrom_18 : decode mExtras_copyFrom.2.1 18 = .ok (.aload_n 0, 1) := by decide +kernel
theorem dExtras_copyFrom_19 : decode mExtras_copyFrom.2.1 19 = .ok (.getfield 9, 3) := by decide +kernel
theorem dExtras_copyFrom_22 : decode mExtras_copyFrom.2.1 22 = .ok (.arraylength, 1) := by decide +kernel
theorem dExtras_copyFrom_23 : decode mExtras_copyFrom.2.1 23 = .ok (.invokestatic 44, 3) := by decide +kernel
theorem dExtras_copyFrom_26 : decode mExtras_copyFrom.2.1 26 = .ok (.aload_n 1, 1) := by decide +kernel
theorem dExtras_copyFrom_27 : decode mExtras_copyFrom.2.1 27 = .ok (.getfield 13, 3) := by decide +kernel
theorem dExtras_copyFrom_30 : decode mExtras_copyFrom.2.1 30 = .ok (.iconst 0, 1) := by decide +kernel
theorem dExtras_copyFrom_31 : decode mExtras_copyFrom.2.1 31 = .ok (.aload_n 0, 1) := by decide +kernel
theorem dExtras_copyFrom_32 : decode mExtras_copyFrom.2.1 32 = .ok (.getfield 13, 3) := by decide +kernel
theorem dExtras_copyFrom_35 : decode mExtras_copyFrom.2.1 35 = .ok (.iconst 0, 1) := by decide +kernel
theorem dExtras_copyFrom_36 : decode mExtras_copyFrom.2.1 36 = .ok (.aload_n 0, 1) := by decide +kernel
theorem dExtras_copyFrom_37 : decode mExtras_copyFrom.2.1 37 = .ok (.getfield 13, 3) := by decide +kernel
theorem dExtras_copyFrom_40 : decode mExtras_copyFrom.2.1 40 = .ok (.arraylength, 1) := by decide +kernel
theorem dExtras_copyFrom_41 : decode mExtras_copyFrom.2.1 41 = .ok (.invokestatic 44, 3) := by decide +kernel
theorem dExtras_copyFrom_44 : decode mExtras_copyFrom.2.1 44 = .ok (.aload_n 1, 1) := by decide +kernel
theorem dExtras_copyFrom_45 : decode mExtras_copyFrom.2.1 45 = .ok (.getfield 16, 3) := by decide +kernel
theorem dExtras_copyFrom_48 : decode mExtras_copyFrom.2.1 48 = .ok (.iconst 0, 1) := by decide +kernel
theorem dExtras_copyFrom_49 : decode mExtras_copyFrom.2.1 49 = .ok (.aload_n 0, 1) := by decide +kernel
theorem dExtras_copyFrom_50 : decode mExtras_copyFrom.2.1 50 = .ok (.getfield 16, 3) := by decide +kernel
theorem dExtras_copyFrom_53 : decode mExtras_copyFrom.2.1 53 = .ok (.iconst 0, 1) := by decide +kernel
theorem dExtras_copyFrom_54 : decode mExtras_copyFrom.2.1 54 = .ok (.aload_n 0, 1) := by decide +kernel
theorem dExtras_copyFrom_55 : decode mExtras_copyFrom.2.1 55 = .ok (.getfield 16, 3) := by decide +kernel
theorem dExtras_copyFrom_58 : decode mExtras_copyFrom.2.1 58 = .ok (.arraylength, 1) := by decide +kernel
theorem dExtras_copyFrom_59 : decode mExtras_copyFrom.2.1 59 = .ok (.invokestatic 44, 3) := by decide +kernel
theorem dExtras_copyFrom_62 : decode mExtras_copyFrom.2.1 62 = .ok (.return_, 1) := by decide +kernel
theorem dExtras_move_0 : decode mExtras_move.2.1 0 = .ok (.iload_n 1, 1) := by decide +kernel
theorem dExtras_move_1 : decode mExtras_move.2.1 1 = .ok (.iload_n 2, 1) := by decide +kernel
theorem dExtras_move_2 : decode mExtras_move.2.1 2 = .ok (.if_icmp .eq 48, 3) := by decide +kernel
theorem dExtras_move_5 : decode mExtras_move.2.1 5 = .ok (.aload_n 0, 1) := by decide +kernel
theorem dExtras_move_6 : decode mExtras_move.2.1 6 = .ok (.getfield 9, 3) := by decide +kernel
theorem dExtras_move_9 : decode mExtras_move.2.1 9 = .ok (.iload_n 2, 1) := by decide +kernel
theorem dExtras_move_10 : decode mExtras_move.2.1 10 = .ok (.aload_n 0, 1) := by decide +kernel
theorem dExtras_move_11 : decode mExtras_move.2.1 11 = .ok (.getfield 9, 3) := by decide +kernel
theorem dExtras_move_14 : decode mExtras_move.2.1 14 = .ok (.iload_n 1, 1) := by decide +kernel
theorem dExtras_move_15 : decode mExtras_move.2.1 15 = .ok (.iaload, 1) := by decide +kernel
theorem dExtras_move_16 : decode mExtras_move.2.1 16 = .ok (.iastore, 1) := by decide +kernel
theorem dExtras_move_17 : decode mExtras_move.2.1 17 = .ok (.aload_n 0, 1) := by decide +kernel
theorem dExtras_move_18 : decode mExtras_move.2.1 18 = .ok (.getfield 13, 3) := by decide +kernel
theorem dExtras_move_21 : decode mExtras_move.2.1 21 = .ok (.iload_n 2, 1) := by decide +kernel
theorem dExtras_move_22 : decode mExtras_move.2.1 22 = .ok (.aload_n 0, 1) := by decide +kernel
theorem dExtras_move_23 : decode mExtras_move.2.1 23 = .ok (.getfield 13, 3) := by decide +kernel
theorem dExtras_move_26 : decode mExtras_move.2.1 26 = .ok (.iload_n 1, 1) := by decide +kernel
theorem dExtras_move_27 : decode mExtras_move.2.1 27 = .ok (.iaload, 1) := by decide +kernel
theorem dExtras_move_28 : decode mExtras_move.2.1 28 = .ok (.iastore, 1) := by decide +kernel
theorem dExtras_move_29 : decode mExtras_move.2.1 29 = .ok (.aload_n 0, 1) := by decide +kernel
theorem dExtras_move_30 : decode mExtras_move.2.1 30 = .ok (.getfield 16, 3) := by decide +kernel
theorem dExtras_move_33 : decode mExtras_move.2.1 33 = .ok (.iload_n 1, 1) := by decide +kernel
theorem dExtras_move_34 : decode mExtras_move.2.1 34 = .ok (.bipush 40, 2) := by decide +kernel
theorem dExtras_move_36 : decode mExtras_move.2.1 36 = .ok (.imul, 1) := by decide +kernel
theorem dExtras_move_37 : decode mExtras_move.2.1 37 = .ok (.aload_n 0, 1) := by decide +kernel
theorem dExtras_move_38 : decode mExtras_move.2.1 38 = .ok (.getfield 16, 3) := by decide +kernel
theorem dExtras_move_41 : decode mExtras_move.2.1 41 = .ok (.iload_n 2, 1) := by decide +kernel
theorem dExtras_move_42 : decode mExtras_move.2.1 42 = .ok (.bipush 40, 2) := by decide +kernel
theorem dExtras_move_44 : decode mExtras_move.2.1 44 = .ok (.imul, 1) := by decide +kernel
theorem dExtras_move_45 : decode mExtras_move.2.1 45 = .ok (.bipush 40, 2) := by decide +kernel
theorem dExtras_move_47 : decode mExtras_move.2.1 47 = .ok (.invokestatic 44, 3) := by decide +kernel
theorem dExtras_move_50 : decode mExtras_move.2.1 50 = .ok (.return_, 1) := by decide +kernel
theorem dPalette_init_0 : decode mPalette_init.2.1 0 = .ok (.aload_n 0, 1) := by decide +kernel
theorem dPalette_init_1 : decode mPalette_init.2.1 1 = .ok (.invokespecial 1, 3) := by decide +kernel
theorem dPalette_init_4 : decode mPalette_init.2.1 4 = .ok (.aload_n 0, 1) := by decide +kernel
theorem dPalette_init_5 : decode mPalette_init.2.1 5 = .ok (.sipush 256, 3) := by decide +kernel
theorem dPalette_init_8 : decode mPalette_init.2.1 8 = .ok (.newarray .int, 2) := by decide +kernel
theorem dPalette_init_10 : decode mPalette_init.2.1 10 = .ok (.putfield 9, 3) := by decide +kernel
theorem dPalette_init_13 : decode mPalette_init.2.1 13 = .ok (.return_, 1) := by decide +kernel
theorem dPalette_most_0 : decode mPalette_most.2.1 0 = .ok (.bipush 64, 2) := by decide +kernel
theorem dPalette_most_2 : decode mPalette_most.2.1 2 = .ok (.iload_n 0, 1) := by decide +kernel
theorem dPalette_most_3 : decode mPalette_most.2.1 3 = .ok (.invokestatic 13, 3) := by decide +kernel
theorem dPalette_most_6 : decode mPalette_most.2.1 6 = .ok (.iconst 1, 1) := by decide +kernel
theorem dPalette_most_7 : decode mPalette_most.2.1 7 = .ok (.iadd, 1) := by decide +kernel
theorem dPalette_most_8 : decode mPalette_most.2.1 8 = .ok (.invokestatic 19, 3) := by decide +kernel
theorem dPalette_most_11 : decode mPalette_most.2.1 11 = .ok (.ireturn, 1) := by decide +kernel
theorem dPalette_clear_0 : decode mPalette_clear.2.1 0 = .ok (.aload_n 0, 1) := by decide +kernel
theorem dPalette_clear_1 : decode mPalette_clear.2.1 1 = .ok (.iconst 0, 1) := by decide +kernel
theorem dPalette_clear_2 : decode mPalette_clear.2.1 2 = .ok (.putfield 25, 3) := by decide +kernel
theorem dPalette_clear_5 : decode mPalette_clear.2.1 5 = .ok (.return_, 1) := by decide +kernel
theorem dPalette_has_0 : decode mPalette_has.2.1 0 = .ok (.iload_n 1, 1) := by decide +kernel
theorem dPalette_has_1 : decode mPalette_has.2.1 1 = .ok (.ifCond .lt 15, 3) := by decide +kernel
theorem dPalette_has_4 : decode mPalette_has.2.1 4 = .ok (.iload_n 1, 1) := by decide +kernel
theorem dPalette_has_5 : decode mPalette_has.2.1 5 = .ok (.aload_n 0, 1) := by decide +kernel
theorem dPalette_has_6 : decode mPalette_has.2.1 6 = .ok (.getfield 25, 3) := by decide +kernel
theorem dPalette_has_9 : decode mPalette_has.2.1 9 = .ok (.if_icmp .ge 7, 3) := by decide +kernel
theorem dPalette_has_12 : decode mPalette_has.2.1 12 = .ok (.iconst 1, 1) := by decide +kernel
theorem dPalette_has_13 : decode mPalette_has.2.1 13 = .ok (.goto 4, 3) := by decide +kernel
theorem dPalette_has_16 : decode mPalette_has.2.1 16 = .ok (.iconst 0, 1) := by decide +kernel
theorem dPalette_has_17 : decode mPalette_has.2.1 17 = .ok (.ireturn, 1) := by decide +kernel
theorem dPalette_part_0 : decode mPalette_part.2.1 0 = .ok (.aload_n 0, 1) := by decide +kernel
theorem dPalette_part_1 : decode mPalette_part.2.1 1 = .ok (.iload_n 1, 1) := by decide +kernel
theorem dPalette_part_2 : decode mPalette_part.2.1 2 = .ok (.invokevirtual 29, 3) := by decide +kernel
theorem dPalette_part_5 : decode mPalette_part.2.1 5 = .ok (.ifCond .eq 25, 3) := by decide +kernel
theorem dPalette_part_8 : decode mPalette_part.2.1 8 = .ok (.iload_n 2, 1) := by decide +kernel
theorem dPalette_part_9 : decode mPalette_part.2.1 9 = .ok (.ifCond .lt 21, 3) := by decide +kernel
theorem dPalette_part_12 : decode mPalette_part.2.1 12 = .ok (.iload_n 2, 1) := by decide +kernel
theorem dPalette_part_13 : decode mPalette_part.2.1 13 = .ok (.iconst 4, 1) := by decide +kernel
theorem dPalette_part_14 : decode mPalette_part.2.1 14 = .ok (.if_icmp .ge 16, 3) := by decide +kernel
theorem dPalette_part_17 : decode mPalette_part.2.1 17 = .ok (.aload_n 0, 1) := by decide +kernel
theorem dPalette_part_18 : decode mPalette_part.2.1 18 = .ok (.getfield 9, 3) := by decide +kernel
theorem dPalette_part_21 : decode mPalette_part.2.1 21 = .ok (.iload_n 1, 1) := by decide +kernel
theorem dPalette_part_22 : decode mPalette_part.2.1 22 = .ok (.iconst 4, 1) := by decide +kernel
theorem dPalette_part_23 : decode mPalette_part.2.1 23 = .ok (.imul, 1) := by decide +kernel
theorem dPalette_part_24 : decode mPalette_part.2.1 24 = .ok (.iload_n 2, 1) := by decide +kernel
theorem dPalette_part_25 : decode mPalette_part.2.1 25 = .ok (.iadd, 1) := by decide +kernel
theorem dPalette_part_26 : decode mPalette_part.2.1 26 = .ok (.iaload, 1) := by decide +kernel
theorem dPalette_part_27 : decode mPalette_part.2.1 27 = .ok (.goto 4, 3) := by decide +kernel
theorem dPalette_part_30 : decode mPalette_part.2.1 30 = .ok (.iconst 0, 1) := by decide +kernel
theorem dPalette_part_31 : decode mPalette_part.2.1 31 = .ok (.ireturn, 1) := by decide +kernel
theorem dPalette_add_0 : decode mPalette_add.2.1 0 = .ok (.aload_n 0, 1) := by decide +kernel
theorem dPalette_add_1 : decode mPalette_add.2.1 1 = .ok (.getfield 25, 3) := by decide +kernel
theorem dPalette_add_4 : decode mPalette_add.2.1 4 = .ok (.bipush 64, 2) := by decide +kernel
theorem dPalette_add_6 : decode mPalette_add.2.1 6 = .ok (.if_icmp .ge 60, 3) := by decide +kernel
theorem dPalette_add_9 : decode mPalette_add.2.1 9 = .ok (.aload_n 0, 1) := by decide +kernel
theorem dPalette_add_10 : decode mPalette_add.2.1 10 = .ok (.getfield 25, 3) := by decide +kernel
theorem dPalette_add_13 : decode mPalette_add.2.1 13 = .ok (.iconst 4, 1) := by decide +kernel
theorem dPalette_add_14 : decode mPalette_add.2.1 14 = .ok (.imul, 1) := by decide +kernel
theorem dPalette_add_15 : decode mPalette_add.2.1 15 = .ok (.istore 5, 2) := by decide +kernel
theorem dPalette_add_17 : decode mPalette_add.2.1 17 = .ok (.aload_n 0, 1) := by decide +kernel
theorem dPalette_add_18 : decode mPalette_add.2.1 18 = .ok (.getfield 9, 3) := by decide +kernel
theorem dPalette_add_21 : decode mPalette_add.2.1 21 = .ok (.iload 5, 2) := by decide +kernel
theorem dPalette_add_23 : decode mPalette_add.2.1 23 = .ok (.iload_n 1, 1) := by decide +kernel
theorem dPalette_add_24 : decode mPalette_add.2.1 24 = .ok (.iastore, 1) := by decide +kernel
theorem dPalette_add_25 : decode mPalette_add.2.1 25 = .ok (.aload_n 0, 1) := by decide +kernel
theorem dPalette_add_26 : decode mPalette_add.2.1 26 = .ok (.getfield 9, 3) := by decide +kernel
theorem dPalette_add_29 : decode mPalette_add.2.1 29 = .ok (.iload 5, 2) := by decide +kernel
theorem dPalette_add_31 : decode mPalette_add.2.1 31 = .ok (.iconst 1, 1) := by decide +kernel
theorem dPalette_add_32 : decode mPalette_add.2.1 32 = .ok (.iadd, 1) := by decide +kernel
theorem dPalette_add_33 : decode mPalette_add.2.1 33 = .ok (.iload_n 2, 1) := by decide +kernel
theorem dPalette_add_34 : decode mPalette_add.2.1 34 = .ok (.iastore, 1) := by decide +kernel
theorem dPalette_add_35 : decode mPalette_add.2.1 35 = .ok (.aload_n 0, 1) := by decide +kernel
theorem dPalette_add_36 : decode mPalette_add.2.1 36 = .ok (.getfield 9, 3) := by decide +kernel
theorem dPalette_add_39 : decode mPalette_add.2.1 39 = .ok (.iload 5, 2) := by decide +kernel
theorem dPalette_add_41 : decode mPalette_add.2.1 41 = .ok (.iconst 2, 1) := by decide +kernel
theorem dPalette_add_42 : decode mPalette_add.2.1 42 = .ok (.iadd, 1) := by decide +kernel
theorem dPalette_add_43 : decode mPalette_add.2.1 43 = .ok (.iload_n 3, 1) := by decide +kernel
theorem dPalette_add_44 : decode mPalette_add.2.1 44 = .ok (.iastore, 1) := by decide +kernel
theorem dPalette_add_45 : decode mPalette_add.2.1 45 = .ok (.aload_n 0, 1) := by decide +kernel
theorem dPalette_add_46 : decode mPalette_add.2.1 46 = .ok (.getfield 9, 3) := by decide +kernel
theorem dPalette_add_49 : decode mPalette_add.2.1 49 = .ok (.iload 5, 2) := by decide +kernel
theorem dPalette_add_51 : decode mPalette_add.2.1 51 = .ok (.iconst 3, 1) := by decide +kernel
theorem dPalette_add_52 : decode mPalette_add.2.1 52 = .ok (.iadd, 1) := by decide +kernel
theorem dPalette_add_53 : decode mPalette_add.2.1 53 = .ok (.iload 4, 2) := by decide +kernel
theorem dPalette_add_55 : decode mPalette_add.2.1 55 = .ok (.iastore, 1) := by decide +kernel
theorem dPalette_add_56 : decode mPalette_add.2.1 56 = .ok (.aload_n 0, 1) := by decide +kernel
theorem dPalette_add_57 : decode mPalette_add.2.1 57 = .ok (.dup, 1) := by decide +kernel
theorem dPalette_add_58 : decode mPalette_add.2.1 58 = .ok (.getfield 25, 3) := by decide +kernel
theorem dPalette_add_61 : decode mPalette_add.2.1 61 = .ok (.iconst 1, 1) := by decide +kernel
theorem dPalette_add_62 : decode mPalette_add.2.1 62 = .ok (.iadd, 1) := by decide +kernel
theorem dPalette_add_63 : decode mPalette_add.2.1 63 = .ok (.putfield 25, 3) := by decide +kernel
theorem dPalette_add_66 : decode mPalette_add.2.1 66 = .ok (.return_, 1) := by decide +kernel
theorem dPalette_setAlpha_0 : decode mPalette_setAlpha.2.1 0 = .ok (.aload_n 0, 1) := by decide +kernel
theorem dPalette_setAlpha_1 : decode mPalette_setAlpha.2.1 1 = .ok (.iload_n 1, 1) := by decide +kernel
theorem dPalette_setAlpha_2 : decode mPalette_setAlpha.2.1 2 = .ok (.invokevirtual 29, 3) := by decide +kernel
theorem dPalette_setAlpha_5 : decode mPalette_setAlpha.2.1 5 = .ok (.ifCond .eq 14, 3) := by decide +kernel
theorem dPalette_setAlpha_8 : decode mPalette_setAlpha.2.1 8 = .ok (.aload_n 0, 1) := by decide +kernel
theorem dPalette_setAlpha_9 : decode mPalette_setAlpha.2.1 9 = .ok (.getfield 9, 3) := by decide +kernel
theorem dPalette_setAlpha_12 : decode mPalette_setAlpha.2.1 12 = .ok (.iload_n 1, 1) := by decide +kernel
theorem dPalette_setAlpha_13 : decode mPalette_setAlpha.2.1 13 = .ok (.iconst 4, 1) := by decide +kernel
theorem dPalette_setAlpha_14 : decode mPalette_setAlpha.2.1 14 = .ok (.imul, 1) := by decide +kernel
theorem dPalette_setAlpha_15 : decode mPalette_setAlpha.2.1 15 = .ok (.iconst 3, 1) := by decide +kernel
theorem dPalette_setAlpha_16 : decode mPalette_setAlpha.2.1 16 = .ok (.iadd, 1) := by decide +kernel
theorem dPalette_setAlpha_17 : decode mPalette_setAlpha.2.1 17 = .ok (.iload_n 2, 1) := by decide +kernel
theorem dPalette_setAlpha_18 : decode mPalette_setAlpha.2.1 18 = .ok (.iastore, 1) := by decide +kernel
theorem dPalette_setAlpha_19 : decode mPalette_setAlpha.2.1 19 = .ok (.return_, 1) := by decide +kernel
theorem dPalette_alphasToTell_0 : decode mPalette_alphasToTell.2.1 0 = .ok (.aload_n 0, 1) := by decide +kernel
theorem dPalette_alphasToTell_1 : decode mPalette_alphasToTell.2.1 1 = .ok (.getfield 25, 3) := by decide +kernel
theorem dPalette_alphasToTell_4 : decode mPalette_alphasToTell.2.1 4 = .ok (.istore_n 1, 1) := by decide +kernel
theorem dPalette_alphasToTell_5 : decode mPalette_alphasToTell.2.1 5 = .ok (.iload_n 1, 1) := by decide +kernel
theorem dPalette_alphasToTell_6 : decode mPalette_alphasToTell.2.1 6 = .ok (.ifCond .le 23, 3) := by decide +kernel
theorem dPalette_alphasToTell_9 : decode mPalette_alphasToTell.2.1 9 = .ok (.aload_n 0, 1) := by decide +kernel
theorem dPalette_alphasToTell_10 : decode mPalette_alphasToTell.2.1 10 = .ok (.iload_n 1, 1) := by decide +kernel
theorem dPalette_alphasToTell_11 : decode mPalette_alphasToTell.2.1 11 = .ok (.iconst 1, 1) := by decide +kernel
theorem dPalette_alphasToTell_12 : decode mPalette_alphasToTell.2.1 12 = .ok (.isub, 1) := by decide +kernel
theorem dPalette_alphasToTell_13 : decode mPalette_alphasToTell.2.1 13 = .ok (.iconst 3, 1) := by decide +kernel
theorem dPalette_alphasToTell_14 : decode mPalette_alphasToTell.2.1 14 = .ok (.invokevirtual 33, 3) := by decide +kernel
theorem dPalette_alphasToTell_17 : decode mPalette_alphasToTell.2.1 17 = .ok (.sipush 255, 3) := by decide +kernel
theorem dPalette_alphasToTell_20 : decode mPalette_alphasToTell.2.1 20 = .ok (.if_icmp .ne 9, 3) := by decide +kernel
theorem dPalette_alphasToTell_23 : decode mPalette_alphasToTell.2.1 23 = .ok (.iinc 1 (-1), 3) := by decide +kernel
theorem dPalette_alphasToTell_26 : decode mPalette_alphasToTell.2.1 26 = .ok (.goto (-21), 3) := by decide +kernel
theorem dPalette_alphasToTell_29 : decode mPalette_alphasToTell.2.1 29 = .ok (.iload_n 1, 1) := by decide +kernel
theorem dPalette_alphasToTell_30 : decode mPalette_alphasToTell.2.1 30 = .ok (.ireturn, 1) := by decide +kernel
theorem dPalette_copyFrom_0 : decode mPalette_copyFrom.2.1 0 = .ok (.aload_n 0, 1) := by decide +kernel
theorem dPalette_copyFrom_1 : decode mPalette_copyFrom.2.1 1 = .ok (.aload_n 1, 1) := by decide +kernel
theorem dPalette_copyFrom_2 : decode mPalette_copyFrom.2.1 2 = .ok (.getfield 25, 3) := by decide +kernel
theorem dPalette_copyFrom_5 : decode mPalette_copyFrom.2.1 5 = .ok (.putfield 25, 3) := by decide +kernel
theorem dPalette_copyFrom_8 : decode mPalette_copyFrom.2.1 8 = .ok (.aload_n 1, 1) := by decide +kernel
theorem dPalette_copyFrom_9 : decode mPalette_copyFrom.2.1 9 = .ok (.getfield 9, 3) := by decide +kernel
theorem dPalette_copyFrom_12 : decode mPalette_copyFrom.2.1 12 = .ok (.iconst 0, 1) := by decide +kernel
theorem dPalette_copyFrom_13 : decode mPalette_copyFrom.2.1 13 = .ok (.aload_n 0, 1) := by decide +kernel
theorem dPalette_copyFrom_14 : decode mPalette_copyFrom.2.1 14 = .ok (.getfield 9, 3) := by decide +kernel
theorem dPalette_copyFrom_17 : decode mPalette_copyFrom.2.1 17 = .ok (.iconst 0, 1) := by decide +kernel
theorem dPalette_copyFrom_18 : decode mPalette_copyFrom.2.1 18 = .ok (.aload_n 0, 1) := by decide +kernel
theorem dPalette_copyFrom_19 : decode mPalette_copyFrom.2.1 19 = .ok (.getfield 9, 3) := by decide +kernel
theorem dPalette_copyFrom_22 : decode mPalette_copyFrom.2.1 22 = .ok (.arraylength, 1) := by decide +kernel
theorem dPalette_copyFrom_23 : decode mPalette_copyFrom.2.1 23 = .ok (.invokestatic 36, 3) := by decide +kernel
theorem dPalette_copyFrom_26 : decode mPalette_copyFrom.2.1 26 = .ok (.return_, 1) := by decide +kernel
theorem dPicture_init_0 : decode mPicture_init.2.1 0 = .ok (.aload_n 0, 1) := by decide +kernel
theorem dPicture_init_1 : decode mPicture_init.2.1 1 = .ok (.invokespecial 3, 3) := by decide +kernel
theorem dPicture_init_4 : decode mPicture_init.2.1 4 = .ok (.aload_n 0, 1) := by decide +kernel
theorem dPicture_init_5 : decode mPicture_init.2.1 5 = .ok (.new 9, 3) := by decide +kernel
theorem dPicture_init_8 : decode mPicture_init.2.1 8 = .ok (.dup, 1) := by decide +kernel
theorem dPicture_init_9 : decode mPicture_init.2.1 9 = .ok (.invokespecial 11, 3) := by decide +kernel
theorem dPicture_init_12 : decode mPicture_init.2.1 12 = .ok (.putfield 12, 3) := by decide +kernel
theorem dPicture_init_15 : decode mPicture_init.2.1 15 = .ok (.aload_n 0, 1) := by decide +kernel
theorem dPicture_init_16 : decode mPicture_init.2.1 16 = .ok (.new 18, 3) := by decide +kernel
theorem dPicture_init_19 : decode mPicture_init.2.1 19 = .ok (.dup, 1) := by decide +kernel
theorem dPicture_init_20 : decode mPicture_init.2.1 20 = .ok (.invokespecial 20, 3) := by decide +kernel
theorem dPicture_init_23 : decode mPicture_init.2.1 23 = .ok (.putfield 21, 3) := by decide +kernel
theorem dPicture_init_26 : decode mPicture_init.2.1 26 = .ok (.aload_n 0, 1) := by decide +kernel
theorem dPicture_init_27 : decode mPicture_init.2.1 27 = .ok (.new 25, 3) := by decide +kernel
theorem dPicture_init_30 : decode mPicture_init.2.1 30 = .ok (.dup, 1) := by decide +kernel
theorem dPicture_init_31 : decode mPicture_init.2.1 31 = .ok (.invokespecial 27, 3) := by decide +kernel
theorem dPicture_init_34 : decode mPicture_init.2.1 34 = .ok (.putfield 28, 3) := by decide +kernel
theorem dPicture_init_37 : decode mPicture_init.2.1 37 = .ok (.aload_n 0, 1) := by decide +kernel
theorem dPicture_init_38 : decode mPicture_init.2.1 38 = .ok (.sipush 576, 3) := by decide +kernel
theorem dPicture_init_41 : decode mPicture_init.2.1 41 = .ok (.newarray .int, 2) := by decide +kernel
theorem dPicture_init_43 : decode mPicture_init.2.1 43 = .ok (.putfield 32, 3) := by decide +kernel
theorem dPicture_init_46 : decode mPicture_init.2.1 46 = .ok (.aload_n 0, 1) := by decide +kernel
theorem dPicture_init_47 : decode mPicture_init.2.1 47 = .ok (.iconst 1, 1) := by decide +kernel
theorem dPicture_init_48 : decode mPicture_init.2.1 48 = .ok (.putfield 36, 3) := by decide +kernel
theorem dPicture_init_51 : decode mPicture_init.2.1 51 = .ok (.aload_n 0, 1) := by decide +kernel
theorem dPicture_init_52 : decode mPicture_init.2.1 52 = .ok (.iconst 1, 1) := by decide +kernel
theorem dPicture_init_53 : decode mPicture_init.2.1 53 = .ok (.putfield 40, 3) := by decide +kernel
theorem dPicture_init_56 : decode mPicture_init.2.1 56 = .ok (.aload_n 0, 1) := by decide +kernel
theorem dPicture_init_57 : decode mPicture_init.2.1 57 = .ok (.bipush 8, 2) := by decide +kernel
theorem dPicture_init_59 : decode mPicture_init.2.1 59 = .ok (.putfield 43, 3) := by decide +kernel
theorem dPicture_init_62 : decode mPicture_init.2.1 62 = .ok (.aload_n 0, 1) := by decide +kernel
theorem dPicture_init_63 : decode mPicture_init.2.1 63 = .ok (.iconst 0, 1) := by decide +kernel
theorem dPicture_init_64 : decode mPicture_init.2.1 64 = .ok (.putfield 46, 3) := by decide +kernel
theorem dPicture_init_67 : decode mPicture_init.2.1 67 = .ok (.aload_n 0, 1) := by decide +kernel
theorem dPicture_init_68 : decode mPicture_init.2.1 68 = .ok (.iconst 1, 1) := by decide +kernel
theorem dPicture_init_69 : decode mPicture_init.2.1 69 = .ok (.putfield 49, 3) := by decide +kernel
theorem dPicture_init_72 : decode mPicture_init.2.1 72 = .ok (.return_, 1) := by decide +kernel
theorem dPicture_begin_0 : decode mPicture_begin.2.1 0 = .ok (.aload_n 0, 1) := by decide +kernel
theorem dPicture_begin_1 : decode mPicture_begin.2.1 1 = .ok (.iconst 1, 1) := by decide +kernel
theorem dPicture_begin_2 : decode mPicture_begin.2.1 2 = .ok (.putfield 52, 3) := by decide +kernel
theorem dPicture_begin_5 : decode mPicture_begin.2.1 5 = .ok (.aload_n 0, 1) := by decide +kernel
theorem dPicture_begin_6 : decode mPicture_begin.2.1 6 = .ok (.iload_n 1, 1) := by decide +kernel
theorem dPicture_begin_7 : decode mPicture_begin.2.1 7 = .ok (.putfield 36, 3) := by decide +kernel
theorem dPicture_begin_10 : decode mPicture_begin.2.1 10 = .ok (.aload_n 0, 1) := by decide +kernel
theorem dPicture_begin_11 : decode mPicture_begin.2.1 11 = .ok (.iload_n 2, 1) := by decide +kernel
theorem dPicture_begin_12 : decode mPicture_begin.2.1 12 = .ok (.putfield 40, 3) := by decide +kernel
theorem dPicture_begin_15 : decode mPicture_begin.2.1 15 = .ok (.aload_n 0, 1) := by decide +kernel
theorem dPicture_begin_16 : decode mPicture_begin.2.1 16 = .ok (.iload_n 3, 1) := by decide +kernel
theorem dPicture_begin_17 : decode mPicture_begin.2.1 17 = .ok (.putfield 43, 3) := by decide +kernel
theorem dPicture_begin_20 : decode mPicture_begin.2.1 20 = .ok (.aload_n 0, 1) := by decide +kernel
theorem dPicture_begin_21 : decode mPicture_begin.2.1 21 = .ok (.iload 4, 2) := by decide +kernel
theorem dPicture_begin_23 : decode mPicture_begin.2.1 23 = .ok (.putfield 46, 3) := by decide +kernel
theorem dPicture_begin_26 : decode mPicture_begin.2.1 26 = .ok (.aload_n 0, 1) := by decide +kernel
theorem dPicture_begin_27 : decode mPicture_begin.2.1 27 = .ok (.iload 4, 2) := by decide +kernel
theorem dPicture_begin_29 : decode mPicture_begin.2.1 29 = .ok (.invokestatic 56, 3) := by decide +kernel
theorem dPicture_begin_32 : decode mPicture_begin.2.1 32 = .ok (.putfield 49, 3) := by decide +kernel
theorem dPicture_begin_35 : decode mPicture_begin.2.1 35 = .ok (.aload_n 0, 1) := by decide +kernel
theorem dPicture_begin_36 : decode mPicture_begin.2.1 36 = .ok (.getfield 32, 3) := by decide +kernel
theorem dPicture_begin_39 : decode mPicture_begin.2.1 39 = .ok (.iconst 0, 1) := by decide +kernel
theorem dPicture_begin_40 : decode mPicture_begin.2.1 40 = .ok (.invokestatic 60, 3) := by decide +kernel
theorem dPicture_begin_43 : decode mPicture_begin.2.1 43 = .ok (.aload_n 0, 1) := by decide +kernel
theorem dPicture_begin_44 : decode mPicture_begin.2.1 44 = .ok (.getfield 12, 3) := by decide +kernel
theorem dPicture_begin_47 : decode mPicture_begin.2.1 47 = .ok (.invokevirtual 66, 3) := by decide +kernel
theorem dPicture_begin_50 : decode mPicture_begin.2.1 50 = .ok (.aload_n 0, 1) := by decide +kernel
theorem dPicture_begin_51 : decode mPicture_begin.2.1 51 = .ok (.getfield 21, 3) := by decide +kernel
theorem dPicture_begin_54 : decode mPicture_begin.2.1 54 = .ok (.invokevirtual 69, 3) := by decide +kernel
theorem dPicture_begin_57 : decode mPicture_begin.2.1 57 = .ok (.aload_n 0, 1) := by decide +kernel
theorem dPicture_begin_58 : decode mPicture_begin.2.1 58 = .ok (.getfield 28, 3) := by decide +kernel
theorem dPicture_begin_61 : decode mPicture_begin.2.1 61 = .ok (.invokevirtual 70, 3) := by decide +kernel
theorem dPicture_begin_64 : decode mPicture_begin.2.1 64 = .ok (.return_, 1) := by decide +kernel
theorem dPicture_become_0 : decode mPicture_become.2.1 0 = .ok (.aload_n 0, 1) := by decide +kernel
theorem dPicture_become_1 : decode mPicture_become.2.1 1 = .ok (.iload_n 1, 1) := by decide +kernel
theorem dPicture_become_2 : decode mPicture_become.2.1 2 = .ok (.putfield 46, 3) := by decide +kernel
theorem dPicture_become_5 : decode mPicture_become.2.1 5 = .ok (.aload_n 0, 1) := by decide +kernel
theorem dPicture_become_6 : decode mPicture_become.2.1 6 = .ok (.iload_n 2, 1) := by decide +kernel
theorem dPicture_become_7 : decode mPicture_become.2.1 7 = .ok (.putfield 43, 3) := by decide +kernel
theorem dPicture_become_10 : decode mPicture_become.2.1 10 = .ok (.aload_n 0, 1) := by decide +kernel
theorem dPicture_become_11 : decode mPicture_become.2.1 11 = .ok (.iload_n 1, 1) := by decide +kernel
theorem dPicture_become_12 : decode mPicture_become.2.1 12 = .ok (.invokestatic 56, 3) := by decide +kernel
theorem dPicture_become_15 : decode mPicture_become.2.1 15 = .ok (.putfield 49, 3) := by decide +kernel
theorem dPicture_become_18 : decode mPicture_become.2.1 18 = .ok (.return_, 1) := by decide +kernel
theorem dPicture_has_0 : decode mPicture_has.2.1 0 = .ok (.iload_n 1, 1) := by decide +kernel
theorem dPicture_has_1 : decode mPicture_has.2.1 1 = .ok (.ifCond .lt 39, 3) := by decide +kernel
theorem dPicture_has_4 : decode mPicture_has.2.1 4 = .ok (.iload_n 1, 1) := by decide +kernel
theorem dPicture_has_5 : decode mPicture_has.2.1 5 = .ok (.aload_n 0, 1) := by decide +kernel
theorem dPicture_has_6 : decode mPicture_has.2.1 6 = .ok (.getfield 36, 3) := by decide +kernel
theorem dPicture_has_9 : decode mPicture_has.2.1 9 = .ok (.if_icmp .ge 31, 3) := by decide +kernel
theorem dPicture_has_12 : decode mPicture_has.2.1 12 = .ok (.iload_n 2, 1) := by decide +kernel
theorem dPicture_has_13 : decode mPicture_has.2.1 13 = .ok (.ifCond .lt 27, 3) := by decide +kernel
theorem dPicture_has_16 : decode mPicture_has.2.1 16 = .ok (.iload_n 2, 1) := by decide +kernel
theorem dPicture_has_17 : decode mPicture_has.2.1 17 = .ok (.aload_n 0, 1) := by decide +kernel
theorem dPicture_has_18 : decode mPicture_has.2.1 18 = .ok (.getfield 40, 3) := by decide +kernel
theorem dPicture_has_21 : decode mPicture_has.2.1 21 = .ok (.if_icmp .ge 19, 3) := by decide +kernel
theorem dPicture_has_24 : decode mPicture_has.2.1 24 = .ok (.iload_n 3, 1) := by decide +kernel
theorem dPicture_has_25 : decode mPicture_has.2.1 25 = .ok (.ifCond .lt 15, 3) := by decide +kernel
theorem dPicture_has_28 : decode mPicture_has.2.1 28 = .ok (.iload_n 3, 1) := by decide +kernel
theorem dPicture_has_29 : decode mPicture_has.2.1 29 = .ok (.aload_n 0, 1) := by decide +kernel
theorem dPicture_has_30 : decode mPicture_has.2.1 30 = .ok (.getfield 49, 3) := by decide +kernel
theorem dPicture_has_33 : decode mPicture_has.2.1 33 = .ok (.if_icmp .ge 7, 3) := by decide +kernel
theorem dPicture_has_36 : decode mPicture_has.2.1 36 = .ok (.iconst 1, 1) := by decide +kernel
theorem dPicture_has_37 : decode mPicture_has.2.1 37 = .ok (.goto 4, 3) := by decide +kernel
theorem dPicture_has_40 : decode mPicture_has.2.1 40 = .ok (.iconst 0, 1) := by decide +kernel
theorem dPicture_has_41 : decode mPicture_has.2.1 41 = .ok (.ireturn, 1) := by decide +kernel
theorem dPicture_sample_0 : decode mPicture_sample.2.1 0 = .ok (.aload_n 0, 1) := by decide +kernel
theorem dPicture_sample_1 : decode mPicture_sample.2.1 1 = .ok (.iload_n 1, 1) := by decide +kernel
theorem dPicture_sample_2 : decode mPicture_sample.2.1 2 = .ok (.iload_n 2, 1) := by decide +kernel
theorem dPicture_sample_3 : decode mPicture_sample.2.1 3 = .ok (.iload_n 3, 1) := by decide +kernel
theorem dPicture_sample_4 : decode mPicture_sample.2.1 4 = .ok (.invokevirtual 71, 3) := by decide +kernel
theorem dPicture_sample_7 : decode mPicture_sample.2.1 7 = .ok (.ifCond .eq 17, 3) := by decide +kernel
theorem dPicture_sample_10 : decode mPicture_sample.2.1 10 = .ok (.aload_n 0, 1) := by decide +kernel
theorem dPicture_sample_11 : decode mPicture_sample.2.1 11 = .ok (.getfield 32, 3) := by decide +kernel
theorem dPicture_sample_14 : decode mPicture_sample.2.1 14 = .ok (.iload_n 1, 1) := by decide +kernel
theorem dPicture_sample_15 : decode mPicture_sample.2.1 15 = .ok (.iload_n 2, 1) := by decide +kernel
theorem dPicture_sample_16 : decode mPicture_sample.2.1 16 = .ok (.iload_n 3, 1) := by decide +kernel
theorem dPicture_sample_17 : decode mPicture_sample.2.1 17 = .ok (.invokestatic 75, 3) := by decide +kernel
theorem dPicture_sample_20 : decode mPicture_sample.2.1 20 = .ok (.iaload, 1) := by decide +kernel
theorem dPicture_sample_21 : decode mPicture_sample.2.1 21 = .ok (.goto 4, 3) := by decide +kernel
theorem dPicture_sample_24 : decode mPicture_sample.2.1 24 = .ok (.iconst 0, 1) := by decide +kernel
theorem dPicture_sample_25 : decode mPicture_sample.2.1 25 = .ok (.ireturn, 1) := by decide +kernel
theorem dPicture_setSample_0 : decode mPicture_setSample.2.1 0 = .ok (.aload_n 0, 1) := by decide +kernel
theorem dPicture_setSample_1 : decode mPicture_setSample.2.1 1 = .ok (.iload_n 1, 1) := by decide +kernel
theorem dPicture_setSample_2 : decode mPicture_setSample.2.1 2 = .ok (.iload_n 2, 1) := by decide +kernel
theorem dPicture_setSample_3 : decode mPicture_setSample.2.1 3 = .ok (.iload_n 3, 1) := by decide +kernel
theorem dPicture_setSample_4 : decode mPicture_setSample.2.1 4 = .ok (.invokevirtual 71, 3) := by decide +kernel
theorem dPicture_setSample_7 : decode mPicture_setSample.2.1 7 = .ok (.ifCond .eq 16, 3) := by decide +kernel
theorem dPicture_setSample_10 : decode mPicture_setSample.2.1 10 = .ok (.aload_n 0, 1) := by decide +kernel
theorem dPicture_setSample_11 : decode mPicture_setSample.2.1 11 = .ok (.getfield 32, 3) := by decide +kernel
theorem dPicture_setSample_14 : decode mPicture_setSample.2.1 14 = .ok (.iload_n 1, 1) := by decide +kernel
theorem dPicture_setSample_15 : decode mPicture_setSample.2.1 15 = .ok (.iload_n 2, 1) := by decide +kernel
theorem dPicture_setSample_16 : decode mPicture_setSample.2.1 16 = .ok (.iload_n 3, 1) := by decide +kernel
theorem dPicture_setSample_17 : decode mPicture_setSample.2.1 17 = .ok (.invokestatic 75, 3) := by decide +kernel
theorem dPicture_setSample_20 : decode mPicture_setSample.2.1 20 = .ok (.iload 4, 2) := by decide +kernel
theorem dPicture_setSample_22 : decode mPicture_setSample.2.1 22 = .ok (.iastore, 1) := by decide +kernel
theorem dPicture_setSample_23 : decode mPicture_setSample.2.1 23 = .ok (.return_, 1) := by decide +kernel
theorem dPicture_sampleMayBe_0 : decode mPicture_sampleMayBe.2.1 0 = .ok (.iload_n 1, 1) := by decide +kernel
theorem dPicture_sampleMayBe_1 : decode mPicture_sampleMayBe.2.1 1 = .ok (.ifCond .lt 37, 3) := by decide +kernel
theorem dPicture_sampleMayBe_4 : decode mPicture_sampleMayBe.2.1 4 = .ok (.iload_n 1, 1) := by decide +kernel
theorem dPicture_sampleMayBe_5 : decode mPicture_sampleMayBe.2.1 5 = .ok (.aload_n 0, 1) := by decide +kernel
theorem dPicture_sampleMayBe_6 : decode mPicture_sampleMayBe.2.1 6 = .ok (.getfield 43, 3) := by decide +kernel
theorem dPicture_sampleMayBe_9 : decode mPicture_sampleMayBe.2.1 9 = .ok (.invokestatic 79, 3) := by decide +kernel
theorem dPicture_sampleMayBe_12 : decode mPicture_sampleMayBe.2.1 12 = .ok (.if_icmp .gt 26, 3) := by decide +kernel
theorem dPicture_sampleMayBe_15 : decode mPicture_sampleMayBe.2.1 15 = .ok (.aload_n 0, 1) := by decide +kernel
theorem dPicture_sampleMayBe_16 : decode mPicture_sampleMayBe.2.1 16 = .ok (.getfield 46, 3) := by decide +kernel
theorem dPicture_sampleMayBe_19 : decode mPicture_sampleMayBe.2.1 19 = .ok (.iconst 3, 1) := by decide +kernel
theorem dPicture_sampleMayBe_20 : decode mPicture_sampleMayBe.2.1 20 = .ok (.if_icmp .ne 14, 3) := by decide +kernel
theorem dPicture_sampleMayBe_23 : decode mPicture_sampleMayBe.2.1 23 = .ok (.aload_n 0, 1) := by decide +kernel
theorem dPicture_sampleMayBe_24 : decode mPicture_sampleMayBe.2.1 24 = .ok (.getfield 12, 3) := by decide +kernel
theorem dPicture_sampleMayBe_27 : decode mPicture_sampleMayBe.2.1 27 = .ok (.iload_n 1, 1) := by decide +kernel
theorem dPicture_sampleMayBe_28 : decode mPicture_sampleMayBe.2.1 28 = .ok (.invokevirtual 82, 3) := by decide +kernel
theorem dPicture_sampleMayBe_31 : decode mPicture_sampleMayBe.2.1 31 = .ok (.ifCond .eq 7, 3) := by decide +kernel
theorem dPicture_sampleMayBe_34 : decode mPicture_sampleMayBe.2.1 34 = .ok (.iconst 1, 1) := by decide +kernel
theorem dPicture_sampleMayBe_35 : decode mPicture_sampleMayBe.2.1 35 = .ok (.goto 4, 3) := by decide +kernel
theorem dPicture_sampleMayBe_38 : decode mPicture_sampleMayBe.2.1 38 = .ok (.iconst 0, 1) := by decide +kernel
theorem dPicture_sampleMayBe_39 : decode mPicture_sampleMayBe.2.1 39 = .ok (.ireturn, 1) := by decide +kernel
theorem dPicture_hasChanged_0 : decode mPicture_hasChanged.2.1 0 = .ok (.aload_n 0, 1) := by decide +kernel
theorem dPicture_hasChanged_1 : decode mPicture_hasChanged.2.1 1 = .ok (.getfield 28, 3) := by decide +kernel
theorem dPicture_hasChanged_4 : decode mPicture_hasChanged.2.1 4 = .ok (.invokevirtual 85, 3) := by decide +kernel
theorem dPicture_hasChanged_7 : decode mPicture_hasChanged.2.1 7 = .ok (.return_, 1) := by decide +kernel
theorem dPicture_copyFrom_0 : decode mPicture_copyFrom.2.1 0 = .ok (.aload_n 0, 1) := by decide +kernel
theorem dPicture_copyFrom_1 : decode mPicture_copyFrom.2.1 1 = .ok (.aload_n 1, 1) := by decide +kernel
theorem dPicture_copyFrom_2 : decode mPicture_copyFrom.2.1 2 = .ok (.getfield 52, 3) := by decide +kernel
theorem dPicture_copyFrom_5 : decode mPicture_copyFrom.2.1 5 = .ok (.putfield 52, 3) := by decide +kernel
theorem dPicture_copyFrom_8 : decode mPicture_copyFrom.2.1 8 = .ok (.aload_n 0, 1) := by decide +kernel
theorem dPicture_copyFrom_9 : decode mPicture_copyFrom.2.1 9 = .ok (.aload_n 1, 1) := by decide +kernel
theorem dPicture_copyFrom_10 : decode mPicture_copyFrom.2.1 10 = .ok (.getfield 36, 3) := by decide +kernel
theorem dPicture_copyFrom_13 : decode mPicture_copyFrom.2.1 13 = .ok (.putfield 36, 3) := by decide +kernel
theorem dPicture_copyFrom_16 : decode mPicture_copyFrom.2.1 16 = .ok (.aload_n 0, 1) := by decide +kernel
theorem dPicture_copyFrom_17 : decode mPicture_copyFrom.2.1 17 = .ok (.aload_n 1, 1) := by decide +kernel
theorem dPicture_copyFrom_18 : decode mPicture_copyFrom.2.1 18 = .ok (.getfield 40, 3) := by decide +kernel
theorem dPicture_copyFrom_21 : decode mPicture_copyFrom.2.1 21 = .ok (.putfield 40, 3) := by decide +kernel
theorem dPicture_copyFrom_24 : decode mPicture_copyFrom.2.1 24 = .ok (.aload_n 0, 1) := by decide +kernel
theorem dPicture_copyFrom_25 : decode mPicture_copyFrom.2.1 25 = .ok (.aload_n 1, 1) := by decide +kernel
theorem dPicture_copyFrom_26 : decode mPicture_copyFrom.2.1 26 = .ok (.getfield 43, 3) := by decide +kernel
theorem dPicture_copyFrom_29 : decode mPicture_copyFrom.2.1 29 = .ok (.putfield 43, 3) := by decide +kernel
theorem dPicture_copyFrom_32 : decode mPicture_copyFrom.2.1 32 = .ok (.aload_n 0, 1) := by decide +kernel
theorem dPicture_copyFrom_33 : decode mPicture_copyFrom.2.1 33 = .ok (.aload_n 1, 1) := by decide +kernel
theorem dPicture_copyFrom_34 : decode mPicture_copyFrom.2.1 34 = .ok (.getfield 46, 3) := by decide +kernel
theorem dPicture_copyFrom_37 : decode mPicture_copyFrom.2.1 37 = .ok (.putfield 46, 3) := by decide +kernel
theorem dPicture_copyFrom_40 : decode mPicture_copyFrom.2.1 40 = .ok (.aload_n 0, 1) := by decide +kernel
theorem dPicture_copyFrom_41 : decode mPicture_copyFrom.2.1 41 = .ok (.aload_n 1, 1) := by decide +kernel
theorem dPicture_copyFrom_42 : decode mPicture_copyFrom.2.1 42 = .ok (.getfield 49, 3) := by decide +kernel
theorem dPicture_copyFrom_45 : decode mPicture_copyFrom.2.1 45 = .ok (.putfield 49, 3) := by decide +kernel
theorem dPicture_copyFrom_48 : decode mPicture_copyFrom.2.1 48 = .ok (.aload_n 1, 1) := by decide +kernel
theorem dPicture_copyFrom_49 : decode mPicture_copyFrom.2.1 49 = .ok (.getfield 32, 3) := by decide +kernel
theorem dPicture_copyFrom_52 : decode mPicture_copyFrom.2.1 52 = .ok (.iconst 0, 1) := by decide +kernel
theorem dPicture_copyFrom_53 : decode mPicture_copyFrom.2.1 53 = .ok (.aload_n 0, 1) := by decide +kernel
theorem dPicture_copyFrom_54 : decode mPicture_copyFrom.2.1 54 = .ok (.getfield 32, 3) := by decide +kernel
theorem dPicture_copyFrom_57 : decode mPicture_copyFrom.2.1 57 = .ok (.iconst 0, 1) := by decide +kernel
theorem dPicture_copyFrom_58 : decode mPicture_copyFrom.2.1 58 = .ok (.aload_n 0, 1) := by decide +kernel
theorem dPicture_copyFrom_59 : decode mPicture_copyFrom.2.1 59 = .ok (.getfield 32, 3) := by decide +kernel
theorem dPicture_copyFrom_62 : decode mPicture_copyFrom.2.1 62 = .ok (.arraylength, 1) := by decide +kernel
theorem dPicture_copyFrom_63 : decode mPicture_copyFrom.2.1 63 = .ok (.invokestatic 88, 3) := by decide +kernel
theorem dPicture_copyFrom_66 : decode mPicture_copyFrom.2.1 66 = .ok (.aload_n 0, 1) := by decide +kernel
theorem dPicture_copyFrom_67 : decode mPicture_copyFrom.2.1 67 = .ok (.getfield 12, 3) := by decide +kernel
theorem dPicture_copyFrom_70 : decode mPicture_copyFrom.2.1 70 = .ok (.aload_n 1, 1) := by decide +kernel
theorem dPicture_copyFrom_71 : decode mPicture_copyFrom.2.1 71 = .ok (.getfield 12, 3) := by decide +kernel
theorem dPicture_copyFrom_74 : decode mPicture_copyFrom.2.1 74 = .ok (.invokevirtual 94, 3) := by decide +kernel
theorem dPicture_copyFrom_77 : decode mPicture_copyFrom.2.1 77 = .ok (.aload_n 0, 1) := by decide +kernel
theorem dPicture_copyFrom_78 : decode mPicture_copyFrom.2.1 78 = .ok (.getfield 21, 3) := by decide +kernel
theorem dPicture_copyFrom_81 : decode mPicture_copyFrom.2.1 81 = .ok (.aload_n 1, 1) := by decide +kernel
theorem dPicture_copyFrom_82 : decode mPicture_copyFrom.2.1 82 = .ok (.getfield 21, 3) := by decide +kernel
theorem dPicture_copyFrom_85 : decode mPicture_copyFrom.2.1 85 = .ok (.invokevirtual 98, 3) := by decide +kernel
theorem dPicture_copyFrom_88 : decode mPicture_copyFrom.2.1 88 = .ok (.aload_n 0, 1) := by decide +kernel
theorem dPicture_copyFrom_89 : decode mPicture_copyFrom.2.1 89 = .ok (.getfield 28, 3) := by decide +kernel
theorem dPicture_copyFrom_92 : decode mPicture_copyFrom.2.1 92 = .ok (.aload_n 1, 1) := by decide +kernel
theorem dPicture_copyFrom_93 : decode mPicture_copyFrom.2.1 93 = .ok (.getfield 28, 3) := by decide +kernel
theorem dPicture_copyFrom_96 : decode mPicture_copyFrom.2.1 96 = .ok (.invokevirtual 101, 3) := by decide +kernel
theorem dPicture_copyFrom_99 : decode mPicture_copyFrom.2.1 99 = .ok (.return_, 1) := by decide +kernel
theorem dPicture_placeOf_0 : decode mPicture_placeOf.2.1 0 = .ok (.iload_n 1, 1) := by decide +kernel
theorem dPicture_placeOf_1 : decode mPicture_placeOf.2.1 1 = .ok (.bipush 12, 2) := by decide +kernel
theorem dPicture_placeOf_3 : decode mPicture_placeOf.2.1 3 = .ok (.imul, 1) := by decide +kernel
theorem dPicture_placeOf_4 : decode mPicture_placeOf.2.1 4 = .ok (.iload_n 0, 1) := by decide +kernel
theorem dPicture_placeOf_5 : decode mPicture_placeOf.2.1 5 = .ok (.iadd, 1) := by decide +kernel
theorem dPicture_placeOf_6 : decode mPicture_placeOf.2.1 6 = .ok (.iconst 4, 1) := by decide +kernel
theorem dPicture_placeOf_7 : decode mPicture_placeOf.2.1 7 = .ok (.imul, 1) := by decide +kernel
theorem dPicture_placeOf_8 : decode mPicture_placeOf.2.1 8 = .ok (.iload_n 2, 1) := by decide +kernel
theorem dPicture_placeOf_9 : decode mPicture_placeOf.2.1 9 = .ok (.iadd, 1) := by decide +kernel
theorem dPicture_placeOf_10 : decode mPicture_placeOf.2.1 10 = .ok (.ireturn, 1) := by decide +kernel
theorem dReading_init_0 : decode mReading_init.2.1 0 = .ok (.aload_n 0, 1) := by decide +kernel
theorem dReading_init_1 : decode mReading_init.2.1 1 = .ok (.invokespecial 3, 3) := by decide +kernel
theorem dReading_init_4 : decode mReading_init.2.1 4 = .ok (.aload_n 0, 1) := by decide +kernel
theorem dReading_init_5 : decode mReading_init.2.1 5 = .ok (.new 9, 3) := by decide +kernel
theorem dReading_init_8 : decode mReading_init.2.1 8 = .ok (.dup, 1) := by decide +kernel
theorem dReading_init_9 : decode mReading_init.2.1 9 = .ok (.sipush 2000, 3) := by decide +kernel
theorem dReading_init_12 : decode mReading_init.2.1 12 = .ok (.invokespecial 11, 3) := by decide +kernel
theorem dReading_init_15 : decode mReading_init.2.1 15 = .ok (.putfield 14, 3) := by decide +kernel
theorem dReading_init_18 : decode mReading_init.2.1 18 = .ok (.aload_n 0, 1) := by decide +kernel
theorem dReading_init_19 : decode mReading_init.2.1 19 = .ok (.new 20, 3) := by decide +kernel
theorem dReading_init_22 : decode mReading_init.2.1 22 = .ok (.dup, 1) := by decide +kernel
theorem dReading_init_23 : decode mReading_init.2.1 23 = .ok (.invokespecial 22, 3) := by decide +kernel
theorem dReading_init_26 : decode mReading_init.2.1 26 = .ok (.putfield 23, 3) := by decide +kernel
theorem dReading_init_29 : decode mReading_init.2.1 29 = .ok (.aload_n 0, 1) := by decide +kernel
theorem dReading_init_30 : decode mReading_init.2.1 30 = .ok (.new 9, 3) := by decide +kernel
theorem dReading_init_33 : decode mReading_init.2.1 33 = .ok (.dup, 1) := by decide +kernel
theorem dReading_init_34 : decode mReading_init.2.1 34 = .ok (.sipush 588, 3) := by decide +kernel
theorem dReading_init_37 : decode mReading_init.2.1 37 = .ok (.invokespecial 11, 3) := by decide +kernel
theorem dReading_init_40 : decode mReading_init.2.1 40 = .ok (.putfield 29, 3) := by decide +kernel
theorem dReading_init_43 : decode mReading_init.2.1 43 = .ok (.return_, 1) := by decide +kernel
theorem dReading_run_0 : decode mReading_run.2.1 0 = .ok (.aload_n 0, 1) := by decide +kernel
theorem dReading_run_1 : decode mReading_run.2.1 1 = .ok (.invokevirtual 32, 3) := by decide +kernel
theorem dReading_run_4 : decode mReading_run.2.1 4 = .ok (.iconst 0, 1) := by decide +kernel
theorem dReading_run_5 : decode mReading_run.2.1 5 = .ok (.istore_n 1, 1) := by decide +kernel
theorem dReading_run_6 : decode mReading_run.2.1 6 = .ok (.iload_n 1, 1) := by decide +kernel
theorem dReading_run_7 : decode mReading_run.2.1 7 = .ok (.sipush 2000, 3) := by decide +kernel
theorem dReading_run_10 : decode mReading_run.2.1 10 = .ok (.if_icmp .ge 78, 3) := by decide +kernel
theorem dReading_run_13 : decode mReading_run.2.1 13 = .ok (.aload_n 0, 1) := by decide +kernel
theorem dReading_run_14 : decode mReading_run.2.1 14 = .ok (.getfield 35, 3) := by decide +kernel
theorem dReading_run_17 : decode mReading_run.2.1 17 = .ok (.ifCond .ne 71, 3) := by decide +kernel
theorem dReading_run_20 : decode mReading_run.2.1 20 = .ok (.aload_n 0, 1) := by decide +kernel
theorem dReading_run_21 : decode mReading_run.2.1 21 = .ok (.getfield 39, 3) := by decide +kernel
theorem dReading_run_24 : decode mReading_run.2.1 24 = .ok (.ifCond .ne 64, 3) := by decide +kernel
theorem dReading_run_27 : decode mReading_run.2.1 27 = .ok (.aload_n 0, 1) := by decide +kernel
theorem dReading_run_28 : decode mReading_run.2.1 28 = .ok (.aload_n 0, 1) := by decide +kernel
theorem dReading_run_29 : decode mReading_run.2.1 29 = .ok (.invokevirtual 43, 3) := by decide +kernel
theorem dReading_run_32 : decode mReading_run.2.1 32 = .ok (.putfield 35, 3) := by decide +kernel
theorem dReading_run_35 : decode mReading_run.2.1 35 = .ok (.aload_n 0, 1) := by decide +kernel
theorem dReading_run_36 : decode mReading_run.2.1 36 = .ok (.getfield 35, 3) := by decide +kernel
theorem dReading_run_39 : decode mReading_run.2.1 39 = .ok (.ifCond .ne 20, 3) := by decide +kernel
theorem dReading_run_42 : decode mReading_run.2.1 42 = .ok (.aload_n 0, 1) := by decide +kernel
theorem dReading_run_43 : decode mReading_run.2.1 43 = .ok (.getfield 47, 3) := by decide +kernel
theorem dReading_run_46 : decode mReading_run.2.1 46 = .ok (.ldc 52, 2) := by decide +kernel
theorem dReading_run_48 : decode mReading_run.2.1 48 = .ok (.if_icmp .ne 11, 3) := by decide +kernel
theorem dReading_run_51 : decode mReading_run.2.1 51 = .ok (.aload_n 0, 1) := by decide +kernel
theorem dReading_run_52 : decode mReading_run.2.1 52 = .ok (.aload_n 0, 1) := by decide +kernel
theorem dReading_run_53 : decode mReading_run.2.1 53 = .ok (.invokevirtual 53, 3) := by decide +kernel
theorem dReading_run_56 : decode mReading_run.2.1 56 = .ok (.putfield 35, 3) := by decide +kernel
theorem dReading_run_59 : decode mReading_run.2.1 59 = .ok (.aload_n 0, 1) := by decide +kernel
theorem dReading_run_60 : decode mReading_run.2.1 60 = .ok (.getfield 35, 3) := by decide +kernel
theorem dReading_run_63 : decode mReading_run.2.1 63 = .ok (.ifCond .ne 19, 3) := by decide +kernel
theorem dReading_run_66 : decode mReading_run.2.1 66 = .ok (.aload_n 0, 1) := by decide +kernel
theorem dReading_run_67 : decode mReading_run.2.1 67 = .ok (.dup, 1) := by decide +kernel
theorem dReading_run_68 : decode mReading_run.2.1 68 = .ok (.getfield 56, 3) := by decide +kernel
theorem dReading_run_71 : decode mReading_run.2.1 71 = .ok (.bipush 12, 2) := by decide +kernel
theorem dReading_run_73 : decode mReading_run.2.1 73 = .ok (.aload_n 0, 1) := by decide +kernel
theorem dReading_run_74 : decode mReading_run.2.1 74 = .ok (.getfield 59, 3) := by decide +kernel
theorem dReading_run_77 : decode mReading_run.2.1 77 = .ok (.iadd, 1) := by decide +kernel
theorem dReading_run_78 : decode mReading_run.2.1 78 = .ok (.iadd, 1) := by decide +kernel
theorem dReading_run_79 : decode mReading_run.2.1 79 = .ok (.putfield 56, 3) := by decide +kernel
theorem dReading_run_82 : decode mReading_run.2.1 82 = .ok (.iinc 1 1, 3) := by decide +kernel
theorem dReading_run_85 : decode mReading_run.2.1 85 = .ok (.goto (-79), 3) := by decide +kernel
theorem dReading_run_88 : decode mReading_run.2.1 88 = .ok (.return_, 1) := by decide +kernel
theorem dReading_begin_0 : decode mReading_begin.2.1 0 = .ok (.aload_n 0, 1) := by decide +kernel
theorem dReading_begin_1 : decode mReading_begin.2.1 1 = .ok (.getfield 14, 3) := by decide +kernel
theorem dReading_begin_4 : decode mReading_begin.2.1 4 = .ok (.invokevirtual 62, 3) := by decide +kernel
theorem dReading_begin_7 : decode mReading_begin.2.1 7 = .ok (.istore_n 1, 1) := by decide +kernel
theorem dReading_begin_8 : decode mReading_begin.2.1 8 = .ok (.aload_n 0, 1) := by decide +kernel
theorem dReading_begin_9 : decode mReading_begin.2.1 9 = .ok (.iconst 0, 1) := by decide +kernel
theorem dReading_begin_10 : decode mReading_begin.2.1 10 = .ok (.putfield 39, 3) := by decide +kernel
theorem dReading_begin_13 : decode mReading_begin.2.1 13 = .ok (.aload_n 0, 1) := by decide +kernel
theorem dReading_begin_14 : decode mReading_begin.2.1 14 = .ok (.iload_n 1, 1) := by decide +kernel
theorem dReading_begin_15 : decode mReading_begin.2.1 15 = .ok (.ifCond .eq 7, 3) := by decide +kernel
theorem dReading_begin_18 : decode mReading_begin.2.1 18 = .ok (.iconst 0, 1) := by decide +kernel
theorem dReading_begin_19 : decode mReading_begin.2.1 19 = .ok (.goto 4, 3) := by decide +kernel
theorem dReading_begin_22 : decode mReading_begin.2.1 22 = .ok (.iconst 1, 1) := by decide +kernel
theorem dReading_begin_23 : decode mReading_begin.2.1 23 = .ok (.putfield 35, 3) := by decide +kernel
theorem dReading_begin_26 : decode mReading_begin.2.1 26 = .ok (.aload_n 0, 1) := by decide +kernel
theorem dReading_begin_27 : decode mReading_begin.2.1 27 = .ok (.iload_n 1, 1) := by decide +kernel
theorem dReading_begin_28 : decode mReading_begin.2.1 28 = .ok (.ifCond .eq 8, 3) := by decide +kernel
theorem dReading_begin_31 : decode mReading_begin.2.1 31 = .ok (.bipush 8, 2) := by decide +kernel
theorem dReading_begin_33 : decode mReading_begin.2.1 33 = .ok (.goto 4, 3) := by decide +kernel
theorem dReading_begin_36 : decode mReading_begin.2.1 36 = .ok (.iconst 0, 1) := by decide +kernel
theorem dReading_begin_37 : decode mReading_begin.2.1 37 = .ok (.putfield 56, 3) := by decide +kernel
theorem dReading_begin_40 : decode mReading_begin.2.1 40 = .ok (.aload_n 0, 1) := by decide +kernel
theorem dReading_begin_41 : decode mReading_begin.2.1 41 = .ok (.iconst 0, 1) := by decide +kernel
theorem dReading_begin_42 : decode mReading_begin.2.1 42 = .ok (.putfield 66, 3) := by decide +kernel
theorem dReading_begin_45 : decode mReading_begin.2.1 45 = .ok (.aload_n 0, 1) := by decide +kernel
theorem dReading_begin_46 : decode mReading_begin.2.1 46 = .ok (.iconst 0, 1) := by decide +kernel
theorem dReading_begin_47 : decode mReading_begin.2.1 47 = .ok (.putfield 69, 3) := by decide +kernel
theorem dReading_begin_50 : decode mReading_begin.2.1 50 = .ok (.aload_n 0, 1) := by decide +kernel
theorem dReading_begin_51 : decode mReading_begin.2.1 51 = .ok (.iconst 0, 1) := by decide +kernel
theorem dReading_begin_52 : decode mReading_begin.2.1 52 = .ok (.putfield 72, 3) := by decide +kernel
theorem dReading_begin_55 : decode mReading_begin.2.1 55 = .ok (.aload_n 0, 1) := by decide +kernel
theorem dReading_begin_56 : decode mReading_begin.2.1 56 = .ok (.getfield 29, 3) := by decide +kernel
theorem dReading_begin_59 : decode mReading_begin.2.1 59 = .ok (.invokevirtual 75, 3) := by decide +kernel
theorem dReading_begin_62 : decode mReading_begin.2.1 62 = .ok (.aload_n 0, 1) := by decide +kernel
theorem dReading_begin_63 : decode mReading_begin.2.1 63 = .ok (.iconst 0, 1) := by decide +kernel
theorem dReading_begin_64 : decode mReading_begin.2.1 64 = .ok (.putfield 78, 3) := by decide +kernel
theorem dReading_begin_67 : decode mReading_begin.2.1 67 = .ok (.aload_n 0, 1) := by decide +kernel
theorem dReading_begin_68 : decode mReading_begin.2.1 68 = .ok (.iconst 0, 1) := by decide +kernel
theorem dReading_begin_69 : decode mReading_begin.2.1 69 = .ok (.putfield 81, 3) := by decide +kernel
theorem dReading_begin_72 : decode mReading_begin.2.1 72 = .ok (.aload_n 0, 1) := by decide +kernel
theorem dReading_begin_73 : decode mReading_begin.2.1 73 = .ok (.iconst 0, 1) := by decide +kernel
theorem dReading_begin_74 : decode mReading_begin.2.1 74 = .ok (.putfield 84, 3) := by decide +kernel
theorem dReading_begin_77 : decode mReading_begin.2.1 77 = .ok (.aload_n 0, 1) := by decide +kernel
theorem dReading_begin_78 : decode mReading_begin.2.1 78 = .ok (.iconst 0, 1) := by decide +kernel
theorem dReading_begin_79 : decode mReading_begin.2.1 79 = .ok (.putfield 87, 3) := by decide +kernel
theorem dReading_begin_82 : decode mReading_begin.2.1 82 = .ok (.aload_n 0, 1) := by decide +kernel
theorem dReading_begin_83 : decode mReading_begin.2.1 83 = .ok (.iconst 0, 1) := by decide +kernel
theorem dReading_begin_84 : decode mReading_begin.2.1 84 = .ok (.putfield 90, 3) := by decide +kernel
theorem dReading_begin_87 : decode mReading_begin.2.1 87 = .ok (.return_, 1) := by decide +kernel
theorem dReading_readChunk_0 : decode mReading_readChunk.2.1 0 = .ok (.aload_n 0, 1) := by decide +kernel
theorem dReading_readChunk_1 : decode mReading_readChunk.2.1 1 = .ok (.invokevirtual 93, 3) := by decide +kernel
theorem dReading_readChunk_4 : decode mReading_readChunk.2.1 4 = .ok (.istore_n 1, 1) := by decide +kernel
theorem dReading_readChunk_5 : decode mReading_readChunk.2.1 5 = .ok (.iload_n 1, 1) := by decide +kernel
theorem dReading_readChunk_6 : decode mReading_readChunk.2.1 6 = .ok (.ifCond .eq 5, 3) := by decide +kernel
theorem dReading_readChunk_9 : decode mReading_readChunk.2.1 9 = .ok (.iload_n 1, 1) := by decide +kernel
theorem dReading_readChunk_10 : decode mReading_readChunk.2.1 10 = .ok (.ireturn, 1) := by decide +kernel
theorem dReading_readChunk_11 : decode mReading_readChunk.2.1 11 = .ok (.aload_n 0, 1) := by decide +kernel
theorem dReading_readChunk_12 : decode mReading_readChunk.2.1 12 = .ok (.getfield 14, 3) := by decide +kernel
theorem dReading_readChunk_15 : decode mReading_readChunk.2.1 15 = .ok (.aload_n 0, 1) := by decide +kernel
theorem dReading_readChunk_16 : decode mReading_readChunk.2.1 16 = .ok (.getfield 56, 3) := by decide +kernel
theorem dReading_readChunk_19 : decode mReading_readChunk.2.1 19 = .ok (.aload_n 0, 1) := by decide +kernel
theorem dReading_readChunk_20 : decode mReading_readChunk.2.1 20 = .ok (.getfield 59, 3) := by decide +kernel
theorem dReading_readChunk_23 : decode mReading_readChunk.2.1 23 = .ok (.invokevirtual 96, 3) := by decide +kernel
theorem dReading_readChunk_26 : decode mReading_readChunk.2.1 26 = .ok (.ifCond .ne 8, 3) := by decide +kernel
theorem dReading_readChunk_29 : decode mReading_readChunk.2.1 29 = .ok (.aload_n 0, 1) := by decide +kernel
theorem dReading_readChunk_30 : decode mReading_readChunk.2.1 30 = .ok (.invokevirtual 100, 3) := by decide +kernel
theorem dReading_readChunk_33 : decode mReading_readChunk.2.1 33 = .ok (.ireturn, 1) := by decide +kernel
theorem dReading_readChunk_34 : decode mReading_readChunk.2.1 34 = .ok (.aload_n 0, 1) := by decide +kernel
theorem dReading_readChunk_35 : decode mReading_readChunk.2.1 35 = .ok (.invokevirtual 103, 3) := by decide +kernel
theorem dReading_readChunk_38 : decode mReading_readChunk.2.1 38 = .ok (.ifCond .eq 5, 3) := by decide +kernel
theorem dReading_readChunk_41 : decode mReading_readChunk.2.1 41 = .ok (.iconst 5, 1) := by decide +kernel
theorem dReading_readChunk_42 : decode mReading_readChunk.2.1 42 = .ok (.ireturn, 1) := by decide +kernel
theorem dReading_readChunk_43 : decode mReading_readChunk.2.1 43 = .ok (.aload_n 0, 1) := by decide +kernel
theorem dReading_readChunk_44 : decode mReading_readChunk.2.1 44 = .ok (.invokevirtual 106, 3) := by decide +kernel
theorem dReading_readChunk_47 : decode mReading_readChunk.2.1 47 = .ok (.ifCond .eq 6, 3) := by decide +kernel
theorem dReading_readChunk_50 : decode mReading_readChunk.2.1 50 = .ok (.bipush 6, 2) := by decide +kernel
theorem dReading_readChunk_52 : decode mReading_readChunk.2.1 52 = .ok (.ireturn, 1) := by decide +kernel
theorem dReading_readChunk_53 : decode mReading_readChunk.2.1 53 = .ok (.aload_n 0, 1) := by decide +kernel
theorem dReading_readChunk_54 : decode mReading_readChunk.2.1 54 = .ok (.invokevirtual 109, 3) := by decide +kernel
theorem dReading_readChunk_57 : decode mReading_readChunk.2.1 57 = .ok (.ifCond .ne 6, 3) := by decide +kernel
theorem dReading_readChunk_60 : decode mReading_readChunk.2.1 60 = .ok (.bipush 7, 2) := by decide +kernel
theorem dReading_readChunk_62 : decode mReading_readChunk.2.1 62 = .ok (.ireturn, 1) := by decide +kernel
theorem dReading_readChunk_63 : decode mReading_readChunk.2.1 63 = .ok (.aload_n 0, 1) := by decide +kernel
theorem dReading_readChunk_64 : decode mReading_readChunk.2.1 64 = .ok (.dup, 1) := by decide +kernel
theorem dReading_readChunk_65 : decode mReading_readChunk.2.1 65 = .ok (.getfield 66, 3) := by decide +kernel
theorem dReading_readChunk_68 : decode mReading_readChunk.2.1 68 = .ok (.iconst 1, 1) := by decide +kernel
theorem dReading_readChunk_69 : decode mReading_readChunk.2.1 69 = .ok (.iadd, 1) := by decide +kernel
theorem dReading_readChunk_70 : decode mReading_readChunk.2.1 70 = .ok (.putfield 66, 3) := by decide +kernel
theorem dReading_readChunk_73 : decode mReading_readChunk.2.1 73 = .ok (.aload_n 0, 1) := by decide +kernel
theorem dReading_readChunk_74 : decode mReading_readChunk.2.1 74 = .ok (.invokevirtual 112, 3) := by decide +kernel
theorem dReading_readChunk_77 : decode mReading_readChunk.2.1 77 = .ok (.iconst 0, 1) := by decide +kernel
theorem dReading_readChunk_78 : decode mReading_readChunk.2.1 78 = .ok (.ireturn, 1) := by decide +kernel
theorem dReading_frameFault_0 : decode mReading_frameFault.2.1 0 = .ok (.aload_n 0, 1) := by decide +kernel
theorem dReading_frameFault_1 : decode mReading_frameFault.2.1 1 = .ok (.getfield 14, 3) := by decide +kernel
theorem dReading_frameFault_4 : decode mReading_frameFault.2.1 4 = .ok (.aload_n 0, 1) := by decide +kernel
theorem dReading_frameFault_5 : decode mReading_frameFault.2.1 5 = .ok (.getfield 56, 3) := by decide +kernel
theorem dReading_frameFault_8 : decode mReading_frameFault.2.1 8 = .ok (.iconst 0, 1) := by decide +kernel
theorem dReading_frameFault_9 : decode mReading_frameFault.2.1 9 = .ok (.invokevirtual 115, 3) := by decide +kernel
theorem dReading_frameFault_12 : decode mReading_frameFault.2.1 12 = .ok (.ifCond .ne 5, 3) := by decide +kernel
theorem dReading_frameFault_15 : decode mReading_frameFault.2.1 15 = .ok (.iconst 1, 1) := by decide +kernel
theorem dReading_frameFault_16 : decode mReading_frameFault.2.1 16 = .ok (.ireturn, 1) := by decide +kernel
theorem dReading_frameFault_17 : decode mReading_frameFault.2.1 17 = .ok (.aload_n 0, 1) := by decide +kernel
theorem dReading_frameFault_18 : decode mReading_frameFault.2.1 18 = .ok (.aload_n 0, 1) := by decide +kernel
theorem dReading_frameFault_19 : decode mReading_frameFault.2.1 19 = .ok (.getfield 14, 3) := by decide +kernel
theorem dReading_frameFault_22 : decode mReading_frameFault.2.1 22 = .ok (.aload_n 0, 1) := by decide +kernel
theorem dReading_frameFault_23 : decode mReading_frameFault.2.1 23 = .ok (.getfield 56, 3) := by decide +kernel
theorem dReading_frameFault_26 : decode mReading_frameFault.2.1 26 = .ok (.invokevirtual 118, 3) := by decide +kernel
theorem dReading_frameFault_29 : decode mReading_frameFault.2.1 29 = .ok (.putfield 59, 3) := by decide +kernel
theorem dReading_frameFault_32 : decode mReading_frameFault.2.1 32 = .ok (.aload_n 0, 1) := by decide +kernel
theorem dReading_frameFault_33 : decode mReading_frameFault.2.1 33 = .ok (.getfield 59, 3) := by decide +kernel
theorem dReading_frameFault_36 : decode mReading_frameFault.2.1 36 = .ok (.invokestatic 122, 3) := by decide +kernel
theorem dReading_frameFault_39 : decode mReading_frameFault.2.1 39 = .ok (.ifCond .ne 5, 3) := by decide +kernel
theorem dReading_frameFault_42 : decode mReading_frameFault.2.1 42 = .ok (.iconst 2, 1) := by decide +kernel
theorem dReading_frameFault_43 : decode mReading_frameFault.2.1 43 = .ok (.ireturn, 1) := by decide +kernel
theorem dReading_frameFault_44 : decode mReading_frameFault.2.1 44 = .ok (.aload_n 0, 1) := by decide +kernel
theorem dReading_frameFault_45 : decode mReading_frameFault.2.1 45 = .ok (.getfield 14, 3) := by decide +kernel
theorem dReading_frameFault_48 : decode mReading_frameFault.2.1 48 = .ok (.aload_n 0, 1) := by decide +kernel
theorem dReading_frameFault_49 : decode mReading_frameFault.2.1 49 = .ok (.getfield 56, 3) := by decide +kernel
theorem dReading_frameFault_52 : decode mReading_frameFault.2.1 52 = .ok (.aload_n 0, 1) := by decide +kernel
theorem dReading_frameFault_53 : decode mReading_frameFault.2.1 53 = .ok (.getfield 59, 3) := by decide +kernel
theorem dReading_frameFault_56 : decode mReading_frameFault.2.1 56 = .ok (.invokevirtual 115, 3) := by decide +kernel
theorem dReading_frameFault_59 : decode mReading_frameFault.2.1 59 = .ok (.ifCond .ne 5, 3) := by decide +kernel
theorem dReading_frameFault_62 : decode mReading_frameFault.2.1 62 = .ok (.iconst 1, 1) := by decide +kernel
theorem dReading_frameFault_63 : decode mReading_frameFault.2.1 63 = .ok (.ireturn, 1) := by decide +kernel
theorem dReading_frameFault_64 : decode mReading_frameFault.2.1 64 = .ok (.aload_n 0, 1) := by decide +kernel
theorem dReading_frameFault_65 : decode mReading_frameFault.2.1 65 = .ok (.aload_n 0, 1) := by decide +kernel
theorem dReading_frameFault_66 : decode mReading_frameFault.2.1 66 = .ok (.getfield 14, 3) := by decide +kernel
theorem dReading_frameFault_69 : decode mReading_frameFault.2.1 69 = .ok (.aload_n 0, 1) := by decide +kernel
theorem dReading_frameFault_70 : decode mReading_frameFault.2.1 70 = .ok (.getfield 56, 3) := by decide +kernel
theorem dReading_frameFault_73 : decode mReading_frameFault.2.1 73 = .ok (.iconst 4, 1) := by decide +kernel
theorem dReading_frameFault_74 : decode mReading_frameFault.2.1 74 = .ok (.iadd, 1) := by decide +kernel
theorem dReading_frameFault_75 : decode mReading_frameFault.2.1 75 = .ok (.invokevirtual 118, 3) := by decide +kernel
theorem dReading_frameFault_78 : decode mReading_frameFault.2.1 78 = .ok (.putfield 47, 3) := by decide +kernel
theorem dReading_frameFault_81 : decode mReading_frameFault.2.1 81 = .ok (.aload_n 0, 1) := by decide +kernel
theorem dReading_frameFault_82 : decode mReading_frameFault.2.1 82 = .ok (.getfield 47, 3) := by decide +kernel
theorem dReading_frameFault_85 : decode mReading_frameFault.2.1 85 = .ok (.invokestatic 126, 3) := by decide +kernel
theorem dReading_frameFault_88 : decode mReading_frameFault.2.1 88 = .ok (.ifCond .eq 7, 3) := by decide +kernel
theorem dReading_frameFault_91 : decode mReading_frameFault.2.1 91 = .ok (.iconst 0, 1) := by decide +kernel
theorem dReading_frameFault_92 : decode mReading_frameFault.2.1 92 = .ok (.goto 4, 3) := by decide +kernel
theorem dReading_frameFault_95 : decode mReading_frameFault.2.1 95 = .ok (.iconst 3, 1) := by decide +kernel
theorem dReading_frameFault_96 : decode mReading_frameFault.2.1 96 = .ok (.ireturn, 1) := by decide +kernel
theorem dReading_leaveOut_0 : decode mReading_leaveOut.2.1 0 = .ok (.aload_n 0, 1) := by decide +kernel
theorem dReading_leaveOut_1 : decode mReading_leaveOut.2.1 1 = .ok (.getfield 47, 3) := by decide +kernel
theorem dReading_leaveOut_4 : decode mReading_leaveOut.2.1 4 = .ok (.invokestatic 129, 3) := by decide +kernel
theorem dReading_leaveOut_7 : decode mReading_leaveOut.2.1 7 = .ok (.ifCond .eq 5, 3) := by decide +kernel
theorem dReading_leaveOut_10 : decode mReading_leaveOut.2.1 10 = .ok (.iconst 4, 1) := by decide +kernel
theorem dReading_leaveOut_11 : decode mReading_leaveOut.2.1 11 = .ok (.ireturn, 1) := by decide +kernel
theorem dReading_leaveOut_12 : decode mReading_leaveOut.2.1 12 = .ok (.aload_n 0, 1) := by decide +kernel
theorem dReading_leaveOut_13 : decode mReading_leaveOut.2.1 13 = .ok (.dup, 1) := by decide +kernel
theorem dReading_leaveOut_14 : decode mReading_leaveOut.2.1 14 = .ok (.getfield 69, 3) := by decide +kernel
theorem dReading_leaveOut_17 : decode mReading_leaveOut.2.1 17 = .ok (.iconst 1, 1) := by decide +kernel
theorem dReading_leaveOut_18 : decode mReading_leaveOut.2.1 18 = .ok (.iadd, 1) := by decide +kernel
theorem dReading_leaveOut_19 : decode mReading_leaveOut.2.1 19 = .ok (.putfield 69, 3) := by decide +kernel
theorem dReading_leaveOut_22 : decode mReading_leaveOut.2.1 22 = .ok (.aload_n 0, 1) := by decide +kernel
theorem dReading_leaveOut_23 : decode mReading_leaveOut.2.1 23 = .ok (.invokevirtual 112, 3) := by decide +kernel
theorem dReading_leaveOut_26 : decode mReading_leaveOut.2.1 26 = .ok (.iconst 0, 1) := by decide +kernel
theorem dReading_leaveOut_27 : decode mReading_leaveOut.2.1 27 = .ok (.ireturn, 1) := by decide +kernel
theorem dReading_noteRowsEnd_0 : decode mReading_noteRowsEnd.2.1 0 = .ok (.aload_n 0, 1) := by decide +kernel
theorem dReading_noteRowsEnd_1 : decode mReading_noteRowsEnd.2.1 1 = .ok (.aload_n 0, 1) := by decide +kernel
theorem dReading_noteRowsEnd_2 : decode mReading_noteRowsEnd.2.1 2 = .ok (.getfield 87, 3) := by decide +kernel
theorem dReading_noteRowsEnd_5 : decode mReading_noteRowsEnd.2.1 5 = .ok (.ifCond .eq 16, 3) := by decide +kernel
theorem dReading_noteRowsEnd_8 : decode mReading_noteRowsEnd.2.1 8 = .ok (.aload_n 0, 1) := by decide +kernel
theorem dReading_noteRowsEnd_9 : decode mReading_noteRowsEnd.2.1 9 = .ok (.getfield 47, 3) := by decide +kernel
theorem dReading_noteRowsEnd_12 : decode mReading_noteRowsEnd.2.1 12 = .ok (.ldc 132, 2) := by decide +kernel
theorem dReading_noteRowsEnd_14 : decode mReading_noteRowsEnd.2.1 14 = .ok (.if_icmp .eq 7, 3) := by decide +kernel
theorem dReading_noteRowsEnd_17 : decode mReading_noteRowsEnd.2.1 17 = .ok (.iconst 1, 1) := by decide +kernel
theorem dReading_noteRowsEnd_18 : decode mReading_noteRowsEnd.2.1 18 = .ok (.goto 4, 3) := by decide +kernel
theorem dReading_noteRowsEnd_21 : decode mReading_noteRowsEnd.2.1 21 = .ok (.iconst 0, 1) := by decide +kernel
theorem dReading_noteRowsEnd_22 : decode mReading_noteRowsEnd.2.1 22 = .ok (.putfield 90, 3) := by decide +kernel
theorem dReading_noteRowsEnd_25 : decode mReading_noteRowsEnd.2.1 25 = .ok (.return_, 1) := by decide +kernel
theorem dReading_orderIsWrong_0 : decode mReading_orderIsWrong.2.1 0 = .ok (.aload_n 0, 1) := by decide +kernel
theorem dReading_orderIsWrong_1 : decode mReading_orderIsWrong.2.1 1 = .ok (.getfield 78, 3) := by decide +kernel
theorem dReading_orderIsWrong_4 : decode mReading_orderIsWrong.2.1 4 = .ok (.ifCond .ne 18, 3) := by decide +kernel
theorem dReading_orderIsWrong_7 : decode mReading_orderIsWrong.2.1 7 = .ok (.aload_n 0, 1) := by decide +kernel
theorem dReading_orderIsWrong_8 : decode mReading_orderIsWrong.2.1 8 = .ok (.getfield 47, 3) := by decide +kernel
theorem dReading_orderIsWrong_11 : decode mReading_orderIsWrong.2.1 11 = .ok (.ldc 133, 2) := by decide +kernel
theorem dReading_orderIsWrong_13 : decode mReading_orderIsWrong.2.1 13 = .ok (.if_icmp .eq 7, 3) := by decide +kernel
theorem dReading_orderIsWrong_16 : decode mReading_orderIsWrong.2.1 16 = .ok (.iconst 1, 1) := by decide +kernel
theorem dReading_orderIsWrong_17 : decode mReading_orderIsWrong.2.1 17 = .ok (.goto 4, 3) := by decide +kernel
theorem dReading_orderIsWrong_20 : decode mReading_orderIsWrong.2.1 20 = .ok (.iconst 0, 1) := by decide +kernel
theorem dReading_orderIsWrong_21 : decode mReading_orderIsWrong.2.1 21 = .ok (.ireturn, 1) := by decide +kernel
theorem dReading_orderIsWrong_22 : decode mReading_orderIsWrong.2.1 22 = .ok (.aload_n 0, 1) := by decide +kernel
theorem dReading_orderIsWrong_23 : decode mReading_orderIsWrong.2.1 23 = .ok (.getfield 47, 3) := by decide +kernel
theorem dReading_orderIsWrong_26 : decode mReading_orderIsWrong.2.1 26 = .ok (.lookupswitch 269 #[(1229209940, 225), (1229278788, 256), (1229472850, 74), (1347179589, 171), (1732332865, 76), (1883789683, 144), (1934772034, 110), (1951551059, 198)], 74) := by decide +kernel
theorem dReading_orderIsWrong_100 : decode mReading_orderIsWrong.2.1 100 = .ok (.iconst 1, 1) := by decide +kernel
theorem dReading_orderIsWrong_101 : decode mReading_orderIsWrong.2.1 101 = .ok (.ireturn, 1) := by decide +kernel
theorem dReading_orderIsWrong_102 : decode mReading_orderIsWrong.2.1 102 = .ok (.aload_n 0, 1) := by decide +kernel
theorem dReading_orderIsWrong_103 : decode mReading_orderIsWrong.2.1 103 = .ok (.getfield 87, 3) := by decide +kernel
theorem dReading_orderIsWrong_106 : decode mReading_orderIsWrong.2.1 106 = .ok (.ifCond .ne 24, 3) := by decide +kernel
theorem dReading_orderIsWrong_109 : decode mReading_orderIsWrong.2.1 109 = .ok (.aload_n 0, 1) := by decide +kernel
theorem dReading_orderIsWrong_110 : decode mReading_orderIsWrong.2.1 110 = .ok (.getfield 81, 3) := by decide +kernel
theorem dReading_orderIsWrong_113 : decode mReading_orderIsWrong.2.1 113 = .ok (.ifCond .ne 17, 3) := by decide +kernel
theorem dReading_orderIsWrong_116 : decode mReading_orderIsWrong.2.1 116 = .ok (.aload_n 0, 1) := by decide +kernel
theorem dReading_orderIsWrong_117 : decode mReading_orderIsWrong.2.1 117 = .ok (.getfield 23, 3) := by decide +kernel
theorem dReading_orderIsWrong_120 : decode mReading_orderIsWrong.2.1 120 = .ok (.getfield 134, 3) := by decide +kernel
theorem dReading_orderIsWrong_123 : decode mReading_orderIsWrong.2.1 123 = .ok (.iconst 0, 1) := by decide +kernel
theorem dReading_orderIsWrong_124 : decode mReading_orderIsWrong.2.1 124 = .ok (.invokevirtual 140, 3) := by decide +kernel
theorem dReading_orderIsWrong_127 : decode mReading_orderIsWrong.2.1 127 = .ok (.ifCond .eq 7, 3) := by decide +kernel
theorem dReading_orderIsWrong_130 : decode mReading_orderIsWrong.2.1 130 = .ok (.iconst 1, 1) := by decide +kernel
theorem dReading_orderIsWrong_131 : decode mReading_orderIsWrong.2.1 131 = .ok (.goto 4, 3) := by decide +kernel
theorem dReading_orderIsWrong_134 : decode mReading_orderIsWrong.2.1 134 = .ok (.iconst 0, 1) := by decide +kernel
theorem dReading_orderIsWrong_135 : decode mReading_orderIsWrong.2.1 135 = .ok (.ireturn, 1) := by decide +kernel
theorem dReading_orderIsWrong_136 : decode mReading_orderIsWrong.2.1 136 = .ok (.aload_n 0, 1) := by decide +kernel
theorem dReading_orderIsWrong_137 : decode mReading_orderIsWrong.2.1 137 = .ok (.getfield 87, 3) := by decide +kernel
theorem dReading_orderIsWrong_140 : decode mReading_orderIsWrong.2.1 140 = .ok (.ifCond .ne 24, 3) := by decide +kernel
theorem dReading_orderIsWrong_143 : decode mReading_orderIsWrong.2.1 143 = .ok (.aload_n 0, 1) := by decide +kernel
theorem dReading_orderIsWrong_144 : decode mReading_orderIsWrong.2.1 144 = .ok (.getfield 81, 3) := by decide +kernel
theorem dReading_orderIsWrong_147 : decode mReading_orderIsWrong.2.1 147 = .ok (.ifCond .ne 17, 3) := by decide +kernel
theorem dReading_orderIsWrong_150 : decode mReading_orderIsWrong.2.1 150 = .ok (.aload_n 0, 1) := by decide +kernel
theorem dReading_orderIsWrong_151 : decode mReading_orderIsWrong.2.1 151 = .ok (.getfield 23, 3) := by decide +kernel
theorem dReading_orderIsWrong_154 : decode mReading_orderIsWrong.2.1 154 = .ok (.getfield 134, 3) := by decide +kernel
theorem dReading_orderIsWrong_157 : decode mReading_orderIsWrong.2.1 157 = .ok (.iconst 1, 1) := by decide +kernel
theorem dReading_orderIsWrong_158 : decode mReading_orderIsWrong.2.1 158 = .ok (.invokevirtual 140, 3) := by decide +kernel
theorem dReading_orderIsWrong_161 : decode mReading_orderIsWrong.2.1 161 = .ok (.ifCond .eq 7, 3) := by decide +kernel
theorem dReading_orderIsWrong_164 : decode mReading_orderIsWrong.2.1 164 = .ok (.iconst 1, 1) := by decide +kernel
theorem dReading_orderIsWrong_165 : decode mReading_orderIsWrong.2.1 165 = .ok (.goto 4, 3) := by decide +kernel
theorem dReading_orderIsWrong_168 : decode mReading_orderIsWrong.2.1 168 = .ok (.iconst 0, 1) := by decide +kernel
theorem dReading_orderIsWrong_169 : decode mReading_orderIsWrong.2.1 169 = .ok (.ireturn, 1) := by decide +kernel
theorem dReading_orderIsWrong_170 : decode mReading_orderIsWrong.2.1 170 = .ok (.aload_n 0, 1) := by decide +kernel
theorem dReading_orderIsWrong_171 : decode mReading_orderIsWrong.2.1 171 = .ok (.getfield 87, 3) := by decide +kernel
theorem dReading_orderIsWrong_174 : decode mReading_orderIsWrong.2.1 174 = .ok (.ifCond .ne 17, 3) := by decide +kernel
theorem dReading_orderIsWrong_177 : decode mReading_orderIsWrong.2.1 177 = .ok (.aload_n 0, 1) := by decide +kernel
theorem dReading_orderIsWrong_178 : decode mReading_orderIsWrong.2.1 178 = .ok (.getfield 23, 3) := by decide +kernel
theorem dReading_orderIsWrong_181 : decode mReading_orderIsWrong.2.1 181 = .ok (.getfield 134, 3) := by decide +kernel
theorem dReading_orderIsWrong_184 : decode mReading_orderIsWrong.2.1 184 = .ok (.iconst 2, 1) := by decide +kernel
theorem dReading_orderIsWrong_185 : decode mReading_orderIsWrong.2.1 185 = .ok (.invokevirtual 140, 3) := by decide +kernel
theorem dReading_orderIsWrong_188 : decode mReading_orderIsWrong.2.1 188 = .ok (.ifCond .eq 7, 3) := by decide +kernel
theorem dReading_orderIsWrong_191 : decode mReading_orderIsWrong.2.1 191 = .ok (.iconst 1, 1) := by decide +kernel
theorem dReading_orderIsWrong_192 : decode mReading_orderIsWrong.2.1 192 = .ok (.goto 4, 3) := by decide +kernel
theorem dReading_orderIsWrong_195 : decode mReading_orderIsWrong.2.1 195 = .ok (.iconst 0, 1) := by decide +kernel
theorem dReading_orderIsWrong_196 : decode mReading_orderIsWrong.2.1 196 = .ok (.ireturn, 1) := by decide +kernel
theorem dReading_orderIsWrong_197 : decode mReading_orderIsWrong.2.1 197 = .ok (.aload_n 0, 1) := by decide +kernel
theorem dReading_orderIsWrong_198 : decode mReading_orderIsWrong.2.1 198 = .ok (.getfield 87, 3) := by decide +kernel
theorem dReading_orderIsWrong_201 : decode mReading_orderIsWrong.2.1 201 = .ok (.ifCond .ne 17, 3) := by decide +kernel
theorem dReading_orderIsWrong_204 : decode mReading_orderIsWrong.2.1 204 = .ok (.aload_n 0, 1) := by decide +kernel
theorem dReading_orderIsWrong_205 : decode mReading_orderIsWrong.2.1 205 = .ok (.getfield 81, 3) := by decide +kernel
theorem dReading_orderIsWrong_208 : decode mReading_orderIsWrong.2.1 208 = .ok (.ifCond .ne 10, 3) := by decide +kernel
theorem dReading_orderIsWrong_211 : decode mReading_orderIsWrong.2.1 211 = .ok (.aload_n 0, 1) := by decide +kernel
theorem dReading_orderIsWrong_212 : decode mReading_orderIsWrong.2.1 212 = .ok (.invokevirtual 143, 3) := by decide +kernel
theorem dReading_orderIsWrong_215 : decode mReading_orderIsWrong.2.1 215 = .ok (.ifCond .eq 7, 3) := by decide +kernel
theorem dReading_orderIsWrong_218 : decode mReading_orderIsWrong.2.1 218 = .ok (.iconst 1, 1) := by decide +kernel
theorem dReading_orderIsWrong_219 : decode mReading_orderIsWrong.2.1 219 = .ok (.goto 4, 3) := by decide +kernel
theorem dReading_orderIsWrong_222 : decode mReading_orderIsWrong.2.1 222 = .ok (.iconst 0, 1) := by decide +kernel
theorem dReading_orderIsWrong_223 : decode mReading_orderIsWrong.2.1 223 = .ok (.ireturn, 1) := by decide +kernel
theorem dReading_orderIsWrong_224 : decode mReading_orderIsWrong.2.1 224 = .ok (.aload_n 0, 1) := by decide +kernel
theorem dReading_orderIsWrong_225 : decode mReading_orderIsWrong.2.1 225 = .ok (.getfield 87, 3) := by decide +kernel
theorem dReading_orderIsWrong_228 : decode mReading_orderIsWrong.2.1 228 = .ok (.ifCond .ne 17, 3) := by decide +kernel
theorem dReading_orderIsWrong_231 : decode mReading_orderIsWrong.2.1 231 = .ok (.aload_n 0, 1) := by decide +kernel
theorem dReading_orderIsWrong_232 : decode mReading_orderIsWrong.2.1 232 = .ok (.getfield 84, 3) := by decide +kernel
theorem dReading_orderIsWrong_235 : decode mReading_orderIsWrong.2.1 235 = .ok (.ifCond .ne 10, 3) := by decide +kernel
theorem dReading_orderIsWrong_238 : decode mReading_orderIsWrong.2.1 238 = .ok (.aload_n 0, 1) := by decide +kernel
theorem dReading_orderIsWrong_239 : decode mReading_orderIsWrong.2.1 239 = .ok (.getfield 81, 3) := by decide +kernel
theorem dReading_orderIsWrong_242 : decode mReading_orderIsWrong.2.1 242 = .ok (.ifCond .ne 7, 3) := by decide +kernel
theorem dReading_orderIsWrong_245 : decode mReading_orderIsWrong.2.1 245 = .ok (.iconst 1, 1) := by decide +kernel
theorem dReading_orderIsWrong_246 : decode mReading_orderIsWrong.2.1 246 = .ok (.goto 4, 3) := by decide +kernel
theorem dReading_orderIsWrong_249 : decode mReading_orderIsWrong.2.1 249 = .ok (.iconst 0, 1) := by decide +kernel
theorem dReading_orderIsWrong_250 : decode mReading_orderIsWrong.2.1 250 = .ok (.ireturn, 1) := by decide +kernel
theorem dReading_orderIsWrong_251 : decode mReading_orderIsWrong.2.1 251 = .ok (.aload_n 0, 1) := by decide +kernel
theorem dReading_orderIsWrong_252 : decode mReading_orderIsWrong.2.1 252 = .ok (.getfield 90, 3) := by decide +kernel
theorem dReading_orderIsWrong_255 : decode mReading_orderIsWrong.2.1 255 = .ok (.ifCond .ne 21, 3) := by decide +kernel
theorem dReading_orderIsWrong_258 : decode mReading_orderIsWrong.2.1 258 = .ok (.aload_n 0, 1) := by decide +kernel
theorem dReading_orderIsWrong_259 : decode mReading_orderIsWrong.2.1 259 = .ok (.getfield 23, 3) := by decide +kernel
theorem dReading_orderIsWrong_262 : decode mReading_orderIsWrong.2.1 262 = .ok (.getfield 146, 3) := by decide +kernel
theorem dReading_orderIsWrong_265 : decode mReading_orderIsWrong.2.1 265 = .ok (.iconst 3, 1) := by decide +kernel
theorem dReading_orderIsWrong_266 : decode mReading_orderIsWrong.2.1 266 = .ok (.if_icmp .ne 14, 3) := by decide +kernel
theorem dReading_orderIsWrong_269 : decode mReading_orderIsWrong.2.1 269 = .ok (.aload_n 0, 1) := by decide +kernel
theorem dReading_orderIsWrong_270 : decode mReading_orderIsWrong.2.1 270 = .ok (.getfield 81, 3) := by decide +kernel
theorem dReading_orderIsWrong_273 : decode mReading_orderIsWrong.2.1 273 = .ok (.ifCond .ne 7, 3) := by decide +kernel
theorem dReading_orderIsWrong_276 : decode mReading_orderIsWrong.2.1 276 = .ok (.iconst 1, 1) := by decide +kernel
theorem dReading_orderIsWrong_277 : decode mReading_orderIsWrong.2.1 277 = .ok (.goto 4, 3) := by decide +kernel
theorem dReading_orderIsWrong_280 : decode mReading_orderIsWrong.2.1 280 = .ok (.iconst 0, 1) := by decide +kernel
theorem dReading_orderIsWrong_281 : decode mReading_orderIsWrong.2.1 281 = .ok (.ireturn, 1) := by decide +kernel
theorem dReading_orderIsWrong_282 : decode mReading_orderIsWrong.2.1 282 = .ok (.aload_n 0, 1) := by decide +kernel
theorem dReading_orderIsWrong_283 : decode mReading_orderIsWrong.2.1 283 = .ok (.getfield 87, 3) := by decide +kernel
theorem dReading_orderIsWrong_286 : decode mReading_orderIsWrong.2.1 286 = .ok (.ifCond .ne 7, 3) := by decide +kernel
theorem dReading_orderIsWrong_289 : decode mReading_orderIsWrong.2.1 289 = .ok (.iconst 1, 1) := by decide +kernel
theorem dReading_orderIsWrong_290 : decode mReading_orderIsWrong.2.1 290 = .ok (.goto 4, 3) := by decide +kernel
theorem dReading_orderIsWrong_293 : decode mReading_orderIsWrong.2.1 293 = .ok (.iconst 0, 1) := by decide +kernel
theorem dReading_orderIsWrong_294 : decode mReading_orderIsWrong.2.1 294 = .ok (.ireturn, 1) := by decide +kernel
theorem dReading_orderIsWrong_295 : decode mReading_orderIsWrong.2.1 295 = .ok (.iconst 0, 1) := by decide +kernel
theorem dReading_orderIsWrong_296 : decode mReading_orderIsWrong.2.1 296 = .ok (.ireturn, 1) := by decide +kernel
theorem dReading_isGreyKind_0 : decode mReading_isGreyKind.2.1 0 = .ok (.aload_n 0, 1) := by decide +kernel
theorem dReading_isGreyKind_1 : decode mReading_isGreyKind.2.1 1 = .ok (.getfield 23, 3) := by decide +kernel
theorem dReading_isGreyKind_4 : decode mReading_isGreyKind.2.1 4 = .ok (.getfield 146, 3) := by decide +kernel
theorem dReading_isGreyKind_7 : decode mReading_isGreyKind.2.1 7 = .ok (.ifCond .eq 14, 3) := by decide +kernel
theorem dReading_isGreyKind_10 : decode mReading_isGreyKind.2.1 10 = .ok (.aload_n 0, 1) := by decide +kernel
theorem dReading_isGreyKind_11 : decode mReading_isGreyKind.2.1 11 = .ok (.getfield 23, 3) := by decide +kernel
theorem dReading_isGreyKind_14 : decode mReading_isGreyKind.2.1 14 = .ok (.getfield 146, 3) := by decide +kernel
theorem dReading_isGreyKind_17 : decode mReading_isGreyKind.2.1 17 = .ok (.iconst 4, 1) := by decide +kernel
theorem dReading_isGreyKind_18 : decode mReading_isGreyKind.2.1 18 = .ok (.if_icmp .ne 7, 3) := by decide +kernel
theorem dReading_isGreyKind_21 : decode mReading_isGreyKind.2.1 21 = .ok (.iconst 1, 1) := by decide +kernel
theorem dReading_isGreyKind_22 : decode mReading_isGreyKind.2.1 22 = .ok (.goto 4, 3) := by decide +kernel
theorem dReading_isGreyKind_25 : decode mReading_isGreyKind.2.1 25 = .ok (.iconst 0, 1) := by decide +kernel
theorem dReading_isGreyKind_26 : decode mReading_isGreyKind.2.1 26 = .ok (.ireturn, 1) := by decide +kernel
theorem dReading_isUnknown_0 : decode mReading_isUnknown.2.1 0 = .ok (.aload_n 0, 1) := by decide +kernel
theorem dReading_isUnknown_1 : decode mReading_isUnknown.2.1 1 = .ok (.getfield 47, 3) := by decide +kernel
theorem dReading_isUnknown_4 : decode mReading_isUnknown.2.1 4 = .ok (.invokestatic 129, 3) := by decide +kernel
theorem dReading_isUnknown_7 : decode mReading_isUnknown.2.1 7 = .ok (.ifCond .eq 43, 3) := by decide +kernel
theorem dReading_isUnknown_10 : decode mReading_isUnknown.2.1 10 = .ok (.aload_n 0, 1) := by decide +kernel
theorem dReading_isUnknown_11 : decode mReading_isUnknown.2.1 11 = .ok (.getfield 47, 3) := by decide +kernel
theorem dReading_isUnknown_14 : decode mReading_isUnknown.2.1 14 = .ok (.ldc 133, 2) := by decide +kernel
theorem dReading_isUnknown_16 : decode mReading_isUnknown.2.1 16 = .ok (.if_icmp .eq 34, 3) := by decide +kernel
theorem dReading_isUnknown_19 : decode mReading_isUnknown.2.1 19 = .ok (.aload_n 0, 1) := by decide +kernel
theorem dReading_isUnknown_20 : decode mReading_isUnknown.2.1 20 = .ok (.getfield 47, 3) := by decide +kernel
theorem dReading_isUnknown_23 : decode mReading_isUnknown.2.1 23 = .ok (.ldc 151, 2) := by decide +kernel
theorem dReading_isUnknown_25 : decode mReading_isUnknown.2.1 25 = .ok (.if_icmp .eq 25, 3) := by decide +kernel
theorem dReading_isUnknown_28 : decode mReading_isUnknown.2.1 28 = .ok (.aload_n 0, 1) := by decide +kernel
theorem dReading_isUnknown_29 : decode mReading_isUnknown.2.1 29 = .ok (.getfield 47, 3) := by decide +kernel
theorem dReading_isUnknown_32 : decode mReading_isUnknown.2.1 32 = .ok (.ldc 132, 2) := by decide +kernel
theorem dReading_isUnknown_34 : decode mReading_isUnknown.2.1 34 = .ok (.if_icmp .eq 16, 3) := by decide +kernel
theorem dReading_isUnknown_37 : decode mReading_isUnknown.2.1 37 = .ok (.aload_n 0, 1) := by decide +kernel
theorem dReading_isUnknown_38 : decode mReading_isUnknown.2.1 38 = .ok (.getfield 47, 3) := by decide +kernel
theorem dReading_isUnknown_41 : decode mReading_isUnknown.2.1 41 = .ok (.ldc 52, 2) := by decide +kernel
theorem dReading_isUnknown_43 : decode mReading_isUnknown.2.1 43 = .ok (.if_icmp .eq 7, 3) := by decide +kernel
theorem dReading_isUnknown_46 : decode mReading_isUnknown.2.1 46 = .ok (.iconst 1, 1) := by decide +kernel
theorem dReading_isUnknown_47 : decode mReading_isUnknown.2.1 47 = .ok (.goto 4, 3) := by decide +kernel
theorem dReading_isUnknown_50 : decode mReading_isUnknown.2.1 50 = .ok (.iconst 0, 1) := by decide +kernel
theorem dReading_isUnknown_51 : decode mReading_isUnknown.2.1 51 = .ok (.ireturn, 1) := by decide +kernel
theorem dReading_takeIn_0 : decode mReading_takeIn.2.1 0 = .ok (.aload_n 0, 1) := by decide +kernel
theorem dReading_takeIn_1 : decode mReading_takeIn.2.1 1 = .ok (.getfield 56, 3) := by decide +kernel
theorem dReading_takeIn_4 : decode mReading_takeIn.2.1 4 = .ok (.bipush 8, 2) := by decide +kernel
theorem dReading_takeIn_6 : decode mReading_takeIn.2.1 6 = .ok (.iadd, 1) := by decide +kernel
theorem dReading_takeIn_7 : decode mReading_takeIn.2.1 7 = .ok (.istore_n 1, 1) := by decide +kernel
theorem dReading_takeIn_8 : decode mReading_takeIn.2.1 8 = .ok (.aload_n 0, 1) := by decide +kernel
theorem dReading_takeIn_9 : decode mReading_takeIn.2.1 9 = .ok (.getfield 47, 3) := by decide +kernel
theorem dReading_takeIn_12 : decode mReading_takeIn.2.1 12 = .ok (.lookupswitch 240 #[(1229209940, 221), (1229278788, 227), (1229472850, 76), (1347179589, 209), (1732332865, 82), (1883789683, 142), (1934772034, 112), (1951551059, 215)], 76) := by decide +kernel
theorem dReading_takeIn_88 : decode mReading_takeIn.2.1 88 = .ok (.aload_n 0, 1) := by decide +kernel
theorem dReading_takeIn_89 : decode mReading_takeIn.2.1 89 = .ok (.iload_n 1, 1) := by decide +kernel
theorem dReading_takeIn_90 : decode mReading_takeIn.2.1 90 = .ok (.invokevirtual 152, 3) := by decide +kernel
theorem dReading_takeIn_93 : decode mReading_takeIn.2.1 93 = .ok (.ireturn, 1) := by decide +kernel
theorem dReading_takeIn_94 : decode mReading_takeIn.2.1 94 = .ok (.aload_n 0, 1) := by decide +kernel
theorem dReading_takeIn_95 : decode mReading_takeIn.2.1 95 = .ok (.getfield 59, 3) := by decide +kernel
theorem dReading_takeIn_98 : decode mReading_takeIn.2.1 98 = .ok (.iconst 4, 1) := by decide +kernel
theorem dReading_takeIn_99 : decode mReading_takeIn.2.1 99 = .ok (.if_icmp .ne 23, 3) := by decide +kernel
theorem dReading_takeIn_102 : decode mReading_takeIn.2.1 102 = .ok (.aload_n 0, 1) := by decide +kernel
theorem dReading_takeIn_103 : decode mReading_takeIn.2.1 103 = .ok (.iconst 0, 1) := by decide +kernel
theorem dReading_takeIn_104 : decode mReading_takeIn.2.1 104 = .ok (.aload_n 0, 1) := by decide +kernel
theorem dReading_takeIn_105 : decode mReading_takeIn.2.1 105 = .ok (.getfield 14, 3) := by decide +kernel
theorem dReading_takeIn_108 : decode mReading_takeIn.2.1 108 = .ok (.iload_n 1, 1) := by decide +kernel
theorem dReading_takeIn_109 : decode mReading_takeIn.2.1 109 = .ok (.invokevirtual 118, 3) := by decide +kernel
theorem dReading_takeIn_112 : decode mReading_takeIn.2.1 112 = .ok (.invokevirtual 155, 3) := by decide +kernel
theorem dReading_takeIn_115 : decode mReading_takeIn.2.1 115 = .ok (.ifCond .eq 7, 3) := by decide +kernel
theorem dReading_takeIn_118 : decode mReading_takeIn.2.1 118 = .ok (.iconst 1, 1) := by decide +kernel
theorem dReading_takeIn_119 : decode mReading_takeIn.2.1 119 = .ok (.goto 4, 3) := by decide +kernel
theorem dReading_takeIn_122 : decode mReading_takeIn.2.1 122 = .ok (.iconst 0, 1) := by decide +kernel
theorem dReading_takeIn_123 : decode mReading_takeIn.2.1 123 = .ok (.ireturn, 1) := by decide +kernel
theorem dReading_takeIn_124 : decode mReading_takeIn.2.1 124 = .ok (.aload_n 0, 1) := by decide +kernel
theorem dReading_takeIn_125 : decode mReading_takeIn.2.1 125 = .ok (.getfield 59, 3) := by decide +kernel
theorem dReading_takeIn_128 : decode mReading_takeIn.2.1 128 = .ok (.iconst 1, 1) := by decide +kernel
theorem dReading_takeIn_129 : decode mReading_takeIn.2.1 129 = .ok (.if_icmp .ne 23, 3) := by decide +kernel
theorem dReading_takeIn_132 : decode mReading_takeIn.2.1 132 = .ok (.aload_n 0, 1) := by decide +kernel
theorem dReading_takeIn_133 : decode mReading_takeIn.2.1 133 = .ok (.iconst 1, 1) := by decide +kernel
theorem dReading_takeIn_134 : decode mReading_takeIn.2.1 134 = .ok (.aload_n 0, 1) := by decide +kernel
theorem dReading_takeIn_135 : decode mReading_takeIn.2.1 135 = .ok (.getfield 14, 3) := by decide +kernel
theorem dReading_takeIn_138 : decode mReading_takeIn.2.1 138 = .ok (.iload_n 1, 1) := by decide +kernel
theorem dReading_takeIn_139 : decode mReading_takeIn.2.1 139 = .ok (.invokevirtual 158, 3) := by decide +kernel
theorem dReading_takeIn_142 : decode mReading_takeIn.2.1 142 = .ok (.invokevirtual 155, 3) := by decide +kernel
theorem dReading_takeIn_145 : decode mReading_takeIn.2.1 145 = .ok (.ifCond .eq 7, 3) := by decide +kernel
theorem dReading_takeIn_148 : decode mReading_takeIn.2.1 148 = .ok (.iconst 1, 1) := by decide +kernel
theorem dReading_takeIn_149 : decode mReading_takeIn.2.1 149 = .ok (.goto 4, 3) := by decide +kernel
theorem dReading_takeIn_152 : decode mReading_takeIn.2.1 152 = .ok (.iconst 0, 1) := by decide +kernel
theorem dReading_takeIn_153 : decode mReading_takeIn.2.1 153 = .ok (.ireturn, 1) := by decide +kernel
theorem dReading_takeIn_154 : decode mReading_takeIn.2.1 154 = .ok (.aload_n 0, 1) := by decide +kernel
theorem dReading_takeIn_155 : decode mReading_takeIn.2.1 155 = .ok (.getfield 59, 3) := by decide +kernel
theorem dReading_takeIn_158 : decode mReading_takeIn.2.1 158 = .ok (.bipush 9, 2) := by decide +kernel
theorem dReading_takeIn_160 : decode mReading_takeIn.2.1 160 = .ok (.if_icmp .ne 59, 3) := by decide +kernel
theorem dReading_takeIn_163 : decode mReading_takeIn.2.1 163 = .ok (.aload_n 0, 1) := by decide +kernel
theorem dReading_takeIn_164 : decode mReading_takeIn.2.1 164 = .ok (.getfield 14, 3) := by decide +kernel
theorem dReading_takeIn_167 : decode mReading_takeIn.2.1 167 = .ok (.iload_n 1, 1) := by decide +kernel
theorem dReading_takeIn_168 : decode mReading_takeIn.2.1 168 = .ok (.invokevirtual 118, 3) := by decide +kernel
theorem dReading_takeIn_171 : decode mReading_takeIn.2.1 171 = .ok (.aload_n 0, 1) := by decide +kernel
theorem dReading_takeIn_172 : decode mReading_takeIn.2.1 172 = .ok (.getfield 14, 3) := by decide +kernel
theorem dReading_takeIn_175 : decode mReading_takeIn.2.1 175 = .ok (.iload_n 1, 1) := by decide +kernel
theorem dReading_takeIn_176 : decode mReading_takeIn.2.1 176 = .ok (.iconst 4, 1) := by decide +kernel
theorem dReading_takeIn_177 : decode mReading_takeIn.2.1 177 = .ok (.iadd, 1) := by decide +kernel
theorem dReading_takeIn_178 : decode mReading_takeIn.2.1 178 = .ok (.invokevirtual 118, 3) := by decide +kernel
theorem dReading_takeIn_181 : decode mReading_takeIn.2.1 181 = .ok (.if_icmp .ne 38, 3) := by decide +kernel
theorem dReading_takeIn_184 : decode mReading_takeIn.2.1 184 = .ok (.aload_n 0, 1) := by decide +kernel
theorem dReading_takeIn_185 : decode mReading_takeIn.2.1 185 = .ok (.getfield 14, 3) := by decide +kernel
theorem dReading_takeIn_188 : decode mReading_takeIn.2.1 188 = .ok (.iload_n 1, 1) := by decide +kernel
theorem dReading_takeIn_189 : decode mReading_takeIn.2.1 189 = .ok (.bipush 8, 2) := by decide +kernel
theorem dReading_takeIn_191 : decode mReading_takeIn.2.1 191 = .ok (.iadd, 1) := by decide +kernel
theorem dReading_takeIn_192 : decode mReading_takeIn.2.1 192 = .ok (.invokevirtual 158, 3) := by decide +kernel
theorem dReading_takeIn_195 : decode mReading_takeIn.2.1 195 = .ok (.iconst 1, 1) := by decide +kernel
theorem dReading_takeIn_196 : decode mReading_takeIn.2.1 196 = .ok (.if_icmp .ne 23, 3) := by decide +kernel
theorem dReading_takeIn_199 : decode mReading_takeIn.2.1 199 = .ok (.aload_n 0, 1) := by decide +kernel
theorem dReading_takeIn_200 : decode mReading_takeIn.2.1 200 = .ok (.iconst 2, 1) := by decide +kernel
theorem dReading_takeIn_201 : decode mReading_takeIn.2.1 201 = .ok (.aload_n 0, 1) := by decide +kernel
theorem dReading_takeIn_202 : decode mReading_takeIn.2.1 202 = .ok (.getfield 14, 3) := by decide +kernel
theorem dReading_takeIn_205 : decode mReading_takeIn.2.1 205 = .ok (.iload_n 1, 1) := by decide +kernel
theorem dReading_takeIn_206 : decode mReading_takeIn.2.1 206 = .ok (.invokevirtual 118, 3) := by decide +kernel
theorem dReading_takeIn_209 : decode mReading_takeIn.2.1 209 = .ok (.invokevirtual 155, 3) := by decide +kernel
theorem dReading_takeIn_212 : decode mReading_takeIn.2.1 212 = .ok (.ifCond .eq 7, 3) := by decide +kernel
theorem dReading_takeIn_215 : decode mReading_takeIn.2.1 215 = .ok (.iconst 1, 1) := by decide +kernel
theorem dReading_takeIn_216 : decode mReading_takeIn.2.1 216 = .ok (.goto 4, 3) := by decide +kernel
theorem dReading_takeIn_219 : decode mReading_takeIn.2.1 219 = .ok (.iconst 0, 1) := by decide +kernel
theorem dReading_takeIn_220 : decode mReading_takeIn.2.1 220 = .ok (.ireturn, 1) := by decide +kernel
theorem dReading_takeIn_221 : decode mReading_takeIn.2.1 221 = .ok (.aload_n 0, 1) := by decide +kernel
theorem dReading_takeIn_222 : decode mReading_takeIn.2.1 222 = .ok (.iload_n 1, 1) := by decide +kernel
theorem dReading_takeIn_223 : decode mReading_takeIn.2.1 223 = .ok (.invokevirtual 161, 3) := by decide +kernel
theorem dReading_takeIn_226 : decode mReading_takeIn.2.1 226 = .ok (.ireturn, 1) := by decide +kernel
theorem dReading_takeIn_227 : decode mReading_takeIn.2.1 227 = .ok (.aload_n 0, 1) := by decide +kernel
theorem dReading_takeIn_228 : decode mReading_takeIn.2.1 228 = .ok (.iload_n 1, 1) := by decide +kernel
theorem dReading_takeIn_229 : decode mReading_takeIn.2.1 229 = .ok (.invokevirtual 164, 3) := by decide +kernel
theorem dReading_takeIn_232 : decode mReading_takeIn.2.1 232 = .ok (.ireturn, 1) := by decide +kernel
theorem dReading_takeIn_233 : decode mReading_takeIn.2.1 233 = .ok (.aload_n 0, 1) := by decide +kernel
theorem dReading_takeIn_234 : decode mReading_takeIn.2.1 234 = .ok (.iload_n 1, 1) := by decide +kernel
theorem dReading_takeIn_235 : decode mReading_takeIn.2.1 235 = .ok (.invokevirtual 167, 3) := by decide +kernel
theorem dReading_takeIn_238 : decode mReading_takeIn.2.1 238 = .ok (.ireturn, 1) := by decide +kernel
theorem dReading_takeIn_239 : decode mReading_takeIn.2.1 239 = .ok (.aload_n 0, 1) := by decide +kernel
theorem dReading_takeIn_240 : decode mReading_takeIn.2.1 240 = .ok (.getfield 59, 3) := by decide +kernel
theorem dReading_takeIn_243 : decode mReading_takeIn.2.1 243 = .ok (.ifCond .ne 7, 3) := by decide +kernel
theorem dReading_takeIn_246 : decode mReading_takeIn.2.1 246 = .ok (.iconst 1, 1) := by decide +kernel
theorem dReading_takeIn_247 : decode mReading_takeIn.2.1 247 = .ok (.goto 4, 3) := by decide +kernel
theorem dReading_takeIn_250 : decode mReading_takeIn.2.1 250 = .ok (.iconst 0, 1) := by decide +kernel
theorem dReading_takeIn_251 : decode mReading_takeIn.2.1 251 = .ok (.ireturn, 1) := by decide +kernel
theorem dReading_takeIn_252 : decode mReading_takeIn.2.1 252 = .ok (.aload_n 0, 1) := by decide +kernel
theorem dReading_takeIn_253 : decode mReading_takeIn.2.1 253 = .ok (.iload_n 1, 1) := by decide +kernel
theorem dReading_takeIn_254 : decode mReading_takeIn.2.1 254 = .ok (.invokevirtual 170, 3) := by decide +kernel
theorem dReading_takeIn_257 : decode mReading_takeIn.2.1 257 = .ok (.ireturn, 1) := by decide +kernel
theorem dReading_takeHead_0 : decode mReading_takeHead.2.1 0 = .ok (.aload_n 0, 1) := by decide +kernel
theorem dReading_takeHead_1 : decode mReading_takeHead.2.1 1 = .ok (.getfield 14, 3) := by decide +kernel
theorem dReading_takeHead_4 : decode mReading_takeHead.2.1 4 = .ok (.iload_n 1, 1) := by decide +kernel
theorem dReading_takeHead_5 : decode mReading_takeHead.2.1 5 = .ok (.invokevirtual 118, 3) := by decide +kernel
theorem dReading_takeHead_8 : decode mReading_takeHead.2.1 8 = .ok (.istore_n 2, 1) := by decide +kernel
theorem dReading_takeHead_9 : decode mReading_takeHead.2.1 9 = .ok (.aload_n 0, 1) := by decide +kernel
theorem dReading_takeHead_10 : decode mReading_takeHead.2.1 10 = .ok (.getfield 14, 3) := by decide +kernel
theorem dReading_takeHead_13 : decode mReading_takeHead.2.1 13 = .ok (.iload_n 1, 1) := by decide +kernel
theorem dReading_takeHead_14 : decode mReading_takeHead.2.1 14 = .ok (.iconst 4, 1) := by decide +kernel
theorem dReading_takeHead_15 : decode mReading_takeHead.2.1 15 = .ok (.iadd, 1) := by decide +kernel
theorem dReading_takeHead_16 : decode mReading_takeHead.2.1 16 = .ok (.invokevirtual 118, 3) := by decide +kernel
theorem dReading_takeHead_19 : decode mReading_takeHead.2.1 19 = .ok (.istore_n 3, 1) := by decide +kernel
theorem dReading_takeHead_20 : decode mReading_takeHead.2.1 20 = .ok (.aload_n 0, 1) := by decide +kernel
theorem dReading_takeHead_21 : decode mReading_takeHead.2.1 21 = .ok (.getfield 14, 3) := by decide +kernel
theorem dReading_takeHead_24 : decode mReading_takeHead.2.1 24 = .ok (.iload_n 1, 1) := by decide +kernel
theorem dReading_takeHead_25 : decode mReading_takeHead.2.1 25 = .ok (.bipush 8, 2) := by decide +kernel
theorem dReading_takeHead_27 : decode mReading_takeHead.2.1 27 = .ok (.iadd, 1) := by decide +kernel
theorem dReading_takeHead_28 : decode mReading_takeHead.2.1 28 = .ok (.invokevirtual 158, 3) := by decide +kernel
theorem dReading_takeHead_31 : decode mReading_takeHead.2.1 31 = .ok (.istore 4, 2) := by decide +kernel
theorem dReading_takeHead_33 : decode mReading_takeHead.2.1 33 = .ok (.aload_n 0, 1) := by decide +kernel
theorem dReading_takeHead_34 : decode mReading_takeHead.2.1 34 = .ok (.getfield 14, 3) := by decide +kernel
theorem dReading_takeHead_37 : decode mReading_takeHead.2.1 37 = .ok (.iload_n 1, 1) := by decide +kernel
theorem dReading_takeHead_38 : decode mReading_takeHead.2.1 38 = .ok (.bipush 9, 2) := by decide +kernel
theorem dReading_takeHead_40 : decode mReading_takeHead.2.1 40 = .ok (.iadd, 1) := by decide +kernel
theorem dReading_takeHead_41 : decode mReading_takeHead.2.1 41 = .ok (.invokevirtual 158, 3) := by decide +kernel
theorem dReading_takeHead_44 : decode mReading_takeHead.2.1 44 = .ok (.istore 5, 2) := by decide +kernel
theorem dReading_takeHead_46 : decode mReading_takeHead.2.1 46 = .ok (.aload_n 0, 1) := by decide +kernel
theorem dReading_takeHead_47 : decode mReading_takeHead.2.1 47 = .ok (.getfield 59, 3) := by decide +kernel
theorem dReading_takeHead_50 : decode mReading_takeHead.2.1 50 = .ok (.bipush 13, 2) := by decide +kernel
theorem dReading_takeHead_52 : decode mReading_takeHead.2.1 52 = .ok (.if_icmp .ne 57, 3) := by decide +kernel
theorem dReading_takeHead_55 : decode mReading_takeHead.2.1 55 = .ok (.iload_n 2, 1) := by decide +kernel
theorem dReading_takeHead_56 : decode mReading_takeHead.2.1 56 = .ok (.iload_n 3, 1) := by decide +kernel
theorem dReading_takeHead_57 : decode mReading_takeHead.2.1 57 = .ok (.iload 4, 2) := by decide +kernel
theorem dReading_takeHead_59 : decode mReading_takeHead.2.1 59 = .ok (.iload 5, 2) := by decide +kernel
theorem dReading_takeHead_61 : decode mReading_takeHead.2.1 61 = .ok (.invokestatic 173, 3) := by decide +kernel
theorem dReading_takeHead_64 : decode mReading_takeHead.2.1 64 = .ok (.ifCond .eq 45, 3) := by decide +kernel
theorem dReading_takeHead_67 : decode mReading_takeHead.2.1 67 = .ok (.aload_n 0, 1) := by decide +kernel
theorem dReading_takeHead_68 : decode mReading_takeHead.2.1 68 = .ok (.getfield 14, 3) := by decide +kernel
theorem dReading_takeHead_71 : decode mReading_takeHead.2.1 71 = .ok (.iload_n 1, 1) := by decide +kernel
theorem dReading_takeHead_72 : decode mReading_takeHead.2.1 72 = .ok (.bipush 10, 2) := by decide +kernel
theorem dReading_takeHead_74 : decode mReading_takeHead.2.1 74 = .ok (.iadd, 1) := by decide +kernel
theorem dReading_takeHead_75 : decode mReading_takeHead.2.1 75 = .ok (.invokevirtual 158, 3) := by decide +kernel
theorem dReading_takeHead_78 : decode mReading_takeHead.2.1 78 = .ok (.ifCond .ne 31, 3) := by decide +kernel
theorem dReading_takeHead_81 : decode mReading_takeHead.2.1 81 = .ok (.aload_n 0, 1) := by decide +kernel
theorem dReading_takeHead_82 : decode mReading_takeHead.2.1 82 = .ok (.getfield 14, 3) := by decide +kernel
theorem dReading_takeHead_85 : decode mReading_takeHead.2.1 85 = .ok (.iload_n 1, 1) := by decide +kernel
theorem dReading_takeHead_86 : decode mReading_takeHead.2.1 86 = .ok (.bipush 11, 2) := by decide +kernel
theorem dReading_takeHead_88 : decode mReading_takeHead.2.1 88 = .ok (.iadd, 1) := by decide +kernel
theorem dReading_takeHead_89 : decode mReading_takeHead.2.1 89 = .ok (.invokevirtual 158, 3) := by decide +kernel
theorem dReading_takeHead_92 : decode mReading_takeHead.2.1 92 = .ok (.ifCond .ne 17, 3) := by decide +kernel
theorem dReading_takeHead_95 : decode mReading_takeHead.2.1 95 = .ok (.aload_n 0, 1) := by decide +kernel
theorem dReading_takeHead_96 : decode mReading_takeHead.2.1 96 = .ok (.getfield 14, 3) := by decide +kernel
theorem dReading_takeHead_99 : decode mReading_takeHead.2.1 99 = .ok (.iload_n 1, 1) := by decide +kernel
theorem dReading_takeHead_100 : decode mReading_takeHead.2.1 100 = .ok (.bipush 12, 2) := by decide +kernel
theorem dReading_takeHead_102 : decode mReading_takeHead.2.1 102 = .ok (.iadd, 1) := by decide +kernel
theorem dReading_takeHead_103 : decode mReading_takeHead.2.1 103 = .ok (.invokevirtual 158, 3) := by decide +kernel
theorem dReading_takeHead_106 : decode mReading_takeHead.2.1 106 = .ok (.ifCond .eq 5, 3) := by decide +kernel
theorem dReading_takeHead_109 : decode mReading_takeHead.2.1 109 = .ok (.iconst 0, 1) := by decide +kernel
theorem dReading_takeHead_110 : decode mReading_takeHead.2.1 110 = .ok (.ireturn, 1) := by decide +kernel
theorem dReading_takeHead_111 : decode mReading_takeHead.2.1 111 = .ok (.aload_n 0, 1) := by decide +kernel
theorem dReading_takeHead_112 : decode mReading_takeHead.2.1 112 = .ok (.getfield 23, 3) := by decide +kernel
theorem dReading_takeHead_115 : decode mReading_takeHead.2.1 115 = .ok (.iload_n 2, 1) := by decide +kernel
theorem dReading_takeHead_116 : decode mReading_takeHead.2.1 116 = .ok (.iload_n 3, 1) := by decide +kernel
theorem dReading_takeHead_117 : decode mReading_takeHead.2.1 117 = .ok (.iload 4, 2) := by decide +kernel
theorem dReading_takeHead_119 : decode mReading_takeHead.2.1 119 = .ok (.iload 5, 2) := by decide +kernel
theorem dReading_takeHead_121 : decode mReading_takeHead.2.1 121 = .ok (.invokevirtual 176, 3) := by decide +kernel
theorem dReading_takeHead_124 : decode mReading_takeHead.2.1 124 = .ok (.aload_n 0, 1) := by decide +kernel
theorem dReading_takeHead_125 : decode mReading_takeHead.2.1 125 = .ok (.iconst 1, 1) := by decide +kernel
theorem dReading_takeHead_126 : decode mReading_takeHead.2.1 126 = .ok (.putfield 78, 3) := by decide +kernel
theorem dReading_takeHead_129 : decode mReading_takeHead.2.1 129 = .ok (.iconst 1, 1) := by decide +kernel
theorem dReading_takeHead_130 : decode mReading_takeHead.2.1 130 = .ok (.ireturn, 1) := by decide +kernel
theorem dReading_takeTag_0 : decode mReading_takeTag.2.1 0 = .ok (.iload_n 1, 1) := by decide +kernel
theorem dReading_takeTag_1 : decode mReading_takeTag.2.1 1 = .ok (.iload_n 2, 1) := by decide +kernel
theorem dReading_takeTag_2 : decode mReading_takeTag.2.1 2 = .ok (.invokestatic 179, 3) := by decide +kernel
theorem dReading_takeTag_5 : decode mReading_takeTag.2.1 5 = .ok (.ifCond .ne 5, 3) := by decide +kernel
theorem dReading_takeTag_8 : decode mReading_takeTag.2.1 8 = .ok (.iconst 0, 1) := by decide +kernel
theorem dReading_takeTag_9 : decode mReading_takeTag.2.1 9 = .ok (.ireturn, 1) := by decide +kernel
theorem dReading_takeTag_10 : decode mReading_takeTag.2.1 10 = .ok (.aload_n 0, 1) := by decide +kernel
theorem dReading_takeTag_11 : decode mReading_takeTag.2.1 11 = .ok (.getfield 23, 3) := by decide +kernel
theorem dReading_takeTag_14 : decode mReading_takeTag.2.1 14 = .ok (.getfield 134, 3) := by decide +kernel
theorem dReading_takeTag_17 : decode mReading_takeTag.2.1 17 = .ok (.iload_n 1, 1) := by decide +kernel
theorem dReading_takeTag_18 : decode mReading_takeTag.2.1 18 = .ok (.iload_n 2, 1) := by decide +kernel
theorem dReading_takeTag_19 : decode mReading_takeTag.2.1 19 = .ok (.invokevirtual 181, 3) := by decide +kernel
theorem dReading_takeTag_22 : decode mReading_takeTag.2.1 22 = .ok (.iconst 1, 1) := by decide +kernel
theorem dReading_takeTag_23 : decode mReading_takeTag.2.1 23 = .ok (.ireturn, 1) := by decide +kernel
theorem dReading_takePalette_0 : decode mReading_takePalette.2.1 0 = .ok (.aload_n 0, 1) := by decide +kernel
theorem dReading_takePalette_1 : decode mReading_takePalette.2.1 1 = .ok (.getfield 59, 3) := by decide +kernel
theorem dReading_takePalette_4 : decode mReading_takePalette.2.1 4 = .ok (.iconst 3, 1) := by decide +kernel
theorem dReading_takePalette_5 : decode mReading_takePalette.2.1 5 = .ok (.idiv, 1) := by decide +kernel
theorem dReading_takePalette_6 : decode mReading_takePalette.2.1 6 = .ok (.istore_n 2, 1) := by decide +kernel
theorem dReading_takePalette_7 : decode mReading_takePalette.2.1 7 = .ok (.aload_n 0, 1) := by decide +kernel
theorem dReading_takePalette_8 : decode mReading_takePalette.2.1 8 = .ok (.getfield 59, 3) := by decide +kernel
theorem dReading_takePalette_11 : decode mReading_takePalette.2.1 11 = .ok (.iconst 3, 1) := by decide +kernel
theorem dReading_takePalette_12 : decode mReading_takePalette.2.1 12 = .ok (.irem, 1) := by decide +kernel
theorem dReading_takePalette_13 : decode mReading_takePalette.2.1 13 = .ok (.ifCond .ne 22, 3) := by decide +kernel
theorem dReading_takePalette_16 : decode mReading_takePalette.2.1 16 = .ok (.iload_n 2, 1) := by decide +kernel
theorem dReading_takePalette_17 : decode mReading_takePalette.2.1 17 = .ok (.iconst 1, 1) := by decide +kernel
theorem dReading_takePalette_18 : decode mReading_takePalette.2.1 18 = .ok (.if_icmp .lt 17, 3) := by decide +kernel
theorem dReading_takePalette_21 : decode mReading_takePalette.2.1 21 = .ok (.iload_n 2, 1) := by decide +kernel
theorem dReading_takePalette_22 : decode mReading_takePalette.2.1 22 = .ok (.aload_n 0, 1) := by decide +kernel
theorem dReading_takePalette_23 : decode mReading_takePalette.2.1 23 = .ok (.getfield 23, 3) := by decide +kernel
theorem dReading_takePalette_26 : decode mReading_takePalette.2.1 26 = .ok (.getfield 185, 3) := by decide +kernel
theorem dReading_takePalette_29 : decode mReading_takePalette.2.1 29 = .ok (.invokestatic 188, 3) := by decide +kernel
theorem dReading_takePalette_32 : decode mReading_takePalette.2.1 32 = .ok (.if_icmp .le 5, 3) := by decide +kernel
theorem dReading_takePalette_35 : decode mReading_takePalette.2.1 35 = .ok (.iconst 0, 1) := by decide +kernel
theorem dReading_takePalette_36 : decode mReading_takePalette.2.1 36 = .ok (.ireturn, 1) := by decide +kernel
theorem dReading_takePalette_37 : decode mReading_takePalette.2.1 37 = .ok (.aload_n 0, 1) := by decide +kernel
theorem dReading_takePalette_38 : decode mReading_takePalette.2.1 38 = .ok (.iconst 1, 1) := by decide +kernel
theorem dReading_takePalette_39 : decode mReading_takePalette.2.1 39 = .ok (.putfield 81, 3) := by decide +kernel
theorem dReading_takePalette_42 : decode mReading_takePalette.2.1 42 = .ok (.iconst 0, 1) := by decide +kernel
theorem dReading_takePalette_43 : decode mReading_takePalette.2.1 43 = .ok (.istore_n 3, 1) := by decide +kernel
theorem dReading_takePalette_44 : decode mReading_takePalette.2.1 44 = .ok (.iload_n 3, 1) := by decide +kernel
theorem dReading_takePalette_45 : decode mReading_takePalette.2.1 45 = .ok (.iload_n 2, 1) := by decide +kernel
theorem dReading_takePalette_46 : decode mReading_takePalette.2.1 46 = .ok (.if_icmp .ge 71, 3) := by decide +kernel
theorem dReading_takePalette_49 : decode mReading_takePalette.2.1 49 = .ok (.aload_n 0, 1) := by decide +kernel
theorem dReading_takePalette_50 : decode mReading_takePalette.2.1 50 = .ok (.getfield 23, 3) := by decide +kernel
theorem dReading_takePalette_53 : decode mReading_takePalette.2.1 53 = .ok (.getfield 146, 3) := by decide +kernel
theorem dReading_takePalette_56 : decode mReading_takePalette.2.1 56 = .ok (.iconst 3, 1) := by decide +kernel
theorem dReading_takePalette_57 : decode mReading_takePalette.2.1 57 = .ok (.if_icmp .ne 60, 3) := by decide +kernel
theorem dReading_takePalette_60 : decode mReading_takePalette.2.1 60 = .ok (.iload_n 1, 1) := by decide +kernel
theorem dReading_takePalette_61 : decode mReading_takePalette.2.1 61 = .ok (.iconst 3, 1) := by decide +kernel
theorem dReading_takePalette_62 : decode mReading_takePalette.2.1 62 = .ok (.iload_n 3, 1) := by decide +kernel
theorem dReading_takePalette_63 : decode mReading_takePalette.2.1 63 = .ok (.imul, 1) := by decide +kernel
theorem dReading_takePalette_64 : decode mReading_takePalette.2.1 64 = .ok (.iadd, 1) := by decide +kernel
theorem dReading_takePalette_65 : decode mReading_takePalette.2.1 65 = .ok (.istore 4, 2) := by decide +kernel
theorem dReading_takePalette_67 : decode mReading_takePalette.2.1 67 = .ok (.aload_n 0, 1) := by decide +kernel
theorem dReading_takePalette_68 : decode mReading_takePalette.2.1 68 = .ok (.getfield 23, 3) := by decide +kernel
theorem dReading_takePalette_71 : decode mReading_takePalette.2.1 71 = .ok (.getfield 193, 3) := by decide +kernel
theorem dReading_takePalette_74 : decode mReading_takePalette.2.1 74 = .ok (.aload_n 0, 1) := by decide +kernel
theorem dReading_takePalette_75 : decode mReading_takePalette.2.1 75 = .ok (.getfield 14, 3) := by decide +kernel
theorem dReading_takePalette_78 : decode mReading_takePalette.2.1 78 = .ok (.iload 4, 2) := by decide +kernel
theorem dReading_takePalette_80 : decode mReading_takePalette.2.1 80 = .ok (.invokevirtual 158, 3) := by decide +kernel
theorem dReading_takePalette_83 : decode mReading_takePalette.2.1 83 = .ok (.aload_n 0, 1) := by decide +kernel
theorem dReading_takePalette_84 : decode mReading_takePalette.2.1 84 = .ok (.getfield 14, 3) := by decide +kernel
theorem dReading_takePalette_87 : decode mReading_takePalette.2.1 87 = .ok (.iload 4, 2) := by decide +kernel
theorem dReading_takePalette_89 : decode mReading_takePalette.2.1 89 = .ok (.iconst 1, 1) := by decide +kernel
theorem dReading_takePalette_90 : decode mReading_takePalette.2.1 90 = .ok (.iadd, 1) := by decide +kernel
theorem dReading_takePalette_91 : decode mReading_takePalette.2.1 91 = .ok (.invokevirtual 158, 3) := by decide +kernel
theorem dReading_takePalette_94 : decode mReading_takePalette.2.1 94 = .ok (.aload_n 0, 1) := by decide +kernel
theorem dReading_takePalette_95 : decode mReading_takePalette.2.1 95 = .ok (.getfield 14, 3) := by decide +kernel
theorem dReading_takePalette_98 : decode mReading_takePalette.2.1 98 = .ok (.iload 4, 2) := by decide +kernel
theorem dReading_takePalette_100 : decode mReading_takePalette.2.1 100 = .ok (.iconst 2, 1) := by decide +kernel
theorem dReading_takePalette_101 : decode mReading_takePalette.2.1 101 = .ok (.iadd, 1) := by decide +kernel
theorem dReading_takePalette_102 : decode mReading_takePalette.2.1 102 = .ok (.invokevirtual 158, 3) := by decide +kernel
theorem dReading_takePalette_105 : decode mReading_takePalette.2.1 105 = .ok (.sipush 255, 3) := by decide +kernel
theorem dReading_takePalette_108 : decode mReading_takePalette.2.1 108 = .ok (.invokevirtual 197, 3) := by decide +kernel
theorem dReading_takePalette_111 : decode mReading_takePalette.2.1 111 = .ok (.iinc 3 1, 3) := by decide +kernel
theorem dReading_takePalette_114 : decode mReading_takePalette.2.1 114 = .ok (.goto (-70), 3) := by decide +kernel
theorem dReading_takePalette_117 : decode mReading_takePalette.2.1 117 = .ok (.iconst 1, 1) := by decide +kernel
theorem dReading_takePalette_118 : decode mReading_takePalette.2.1 118 = .ok (.ireturn, 1) := by decide +kernel
theorem dReading_takeAlphas_0 : decode mReading_takeAlphas.2.1 0 = .ok (.aload_n 0, 1) := by decide +kernel
theorem dReading_takeAlphas_1 : decode mReading_takeAlphas.2.1 1 = .ok (.getfield 23, 3) := by decide +kernel
theorem dReading_takeAlphas_4 : decode mReading_takeAlphas.2.1 4 = .ok (.getfield 146, 3) := by decide +kernel
theorem dReading_takeAlphas_7 : decode mReading_takeAlphas.2.1 7 = .ok (.iconst 3, 1) := by decide +kernel
theorem dReading_takeAlphas_8 : decode mReading_takeAlphas.2.1 8 = .ok (.if_icmp .ne 28, 3) := by decide +kernel
theorem dReading_takeAlphas_11 : decode mReading_takeAlphas.2.1 11 = .ok (.aload_n 0, 1) := by decide +kernel
theorem dReading_takeAlphas_12 : decode mReading_takeAlphas.2.1 12 = .ok (.getfield 59, 3) := by decide +kernel
theorem dReading_takeAlphas_15 : decode mReading_takeAlphas.2.1 15 = .ok (.iconst 1, 1) := by decide +kernel
theorem dReading_takeAlphas_16 : decode mReading_takeAlphas.2.1 16 = .ok (.if_icmp .lt 20, 3) := by decide +kernel
theorem dReading_takeAlphas_19 : decode mReading_takeAlphas.2.1 19 = .ok (.aload_n 0, 1) := by decide +kernel
theorem dReading_takeAlphas_20 : decode mReading_takeAlphas.2.1 20 = .ok (.getfield 59, 3) := by decide +kernel
theorem dReading_takeAlphas_23 : decode mReading_takeAlphas.2.1 23 = .ok (.aload_n 0, 1) := by decide +kernel
theorem dReading_takeAlphas_24 : decode mReading_takeAlphas.2.1 24 = .ok (.getfield 23, 3) := by decide +kernel
theorem dReading_takeAlphas_27 : decode mReading_takeAlphas.2.1 27 = .ok (.getfield 193, 3) := by decide +kernel
theorem dReading_takeAlphas_30 : decode mReading_takeAlphas.2.1 30 = .ok (.getfield 200, 3) := by decide +kernel
theorem dReading_takeAlphas_33 : decode mReading_takeAlphas.2.1 33 = .ok (.if_icmp .le 5, 3) := by decide +kernel
theorem dReading_takeAlphas_36 : decode mReading_takeAlphas.2.1 36 = .ok (.iconst 0, 1) := by decide +kernel
theorem dReading_takeAlphas_37 : decode mReading_takeAlphas.2.1 37 = .ok (.ireturn, 1) := by decide +kernel
theorem dReading_takeAlphas_38 : decode mReading_takeAlphas.2.1 38 = .ok (.aload_n 0, 1) := by decide +kernel
theorem dReading_takeAlphas_39 : decode mReading_takeAlphas.2.1 39 = .ok (.iconst 1, 1) := by decide +kernel
theorem dReading_takeAlphas_40 : decode mReading_takeAlphas.2.1 40 = .ok (.putfield 84, 3) := by decide +kernel
theorem dReading_takeAlphas_43 : decode mReading_takeAlphas.2.1 43 = .ok (.iconst 0, 1) := by decide +kernel
theorem dReading_takeAlphas_44 : decode mReading_takeAlphas.2.1 44 = .ok (.istore_n 2, 1) := by decide +kernel
theorem dReading_takeAlphas_45 : decode mReading_takeAlphas.2.1 45 = .ok (.iload_n 2, 1) := by decide +kernel
theorem dReading_takeAlphas_46 : decode mReading_takeAlphas.2.1 46 = .ok (.aload_n 0, 1) := by decide +kernel
theorem dReading_takeAlphas_47 : decode mReading_takeAlphas.2.1 47 = .ok (.getfield 59, 3) := by decide +kernel
theorem dReading_takeAlphas_50 : decode mReading_takeAlphas.2.1 50 = .ok (.if_icmp .ge 30, 3) := by decide +kernel
theorem dReading_takeAlphas_53 : decode mReading_takeAlphas.2.1 53 = .ok (.aload_n 0, 1) := by decide +kernel
theorem dReading_takeAlphas_54 : decode mReading_takeAlphas.2.1 54 = .ok (.getfield 23, 3) := by decide +kernel
theorem dReading_takeAlphas_57 : decode mReading_takeAlphas.2.1 57 = .ok (.getfield 193, 3) := by decide +kernel
theorem dReading_takeAlphas_60 : decode mReading_takeAlphas.2.1 60 = .ok (.iload_n 2, 1) := by decide +kernel
theorem dReading_takeAlphas_61 : decode mReading_takeAlphas.2.1 61 = .ok (.aload_n 0, 1) := by decide +kernel
theorem dReading_takeAlphas_62 : decode mReading_takeAlphas.2.1 62 = .ok (.getfield 14, 3) := by decide +kernel
theorem dReading_takeAlphas_65 : decode mReading_takeAlphas.2.1 65 = .ok (.iload_n 1, 1) := by decide +kernel
theorem dReading_takeAlphas_66 : decode mReading_takeAlphas.2.1 66 = .ok (.iload_n 2, 1) := by decide +kernel
theorem dReading_takeAlphas_67 : decode mReading_takeAlphas.2.1 67 = .ok (.iadd, 1) := by decide +kernel
theorem dReading_takeAlphas_68 : decode mReading_takeAlphas.2.1 68 = .ok (.invokevirtual 158, 3) := by decide +kernel
theorem dReading_takeAlphas_71 : decode mReading_takeAlphas.2.1 71 = .ok (.invokevirtual 203, 3) := by decide +kernel
theorem dReading_takeAlphas_74 : decode mReading_takeAlphas.2.1 74 = .ok (.iinc 2 1, 3) := by decide +kernel
theorem dReading_takeAlphas_77 : decode mReading_takeAlphas.2.1 77 = .ok (.goto (-32), 3) := by decide +kernel
theorem dReading_takeAlphas_80 : decode mReading_takeAlphas.2.1 80 = .ok (.iconst 1, 1) := by decide +kernel
theorem dReading_takeAlphas_81 : decode mReading_takeAlphas.2.1 81 = .ok (.ireturn, 1) := by decide +kernel
theorem dReading_takeRows_0 : decode mReading_takeRows.2.1 0 = .ok (.aload_n 0, 1) := by decide +kernel
theorem dReading_takeRows_1 : decode mReading_takeRows.2.1 1 = .ok (.iconst 1, 1) := by decide +kernel
theorem dReading_takeRows_2 : decode mReading_takeRows.2.1 2 = .ok (.putfield 87, 3) := by decide +kernel
theorem dReading_takeRows_5 : decode mReading_takeRows.2.1 5 = .ok (.aload_n 0, 1) := by decide +kernel
theorem dReading_takeRows_6 : decode mReading_takeRows.2.1 6 = .ok (.dup, 1) := by decide +kernel
theorem dReading_takeRows_7 : decode mReading_takeRows.2.1 7 = .ok (.getfield 72, 3) := by decide +kernel
theorem dReading_takeRows_10 : decode mReading_takeRows.2.1 10 = .ok (.aload_n 0, 1) := by decide +kernel
theorem dReading_takeRows_11 : decode mReading_takeRows.2.1 11 = .ok (.getfield 59, 3) := by decide +kernel
theorem dReading_takeRows_14 : decode mReading_takeRows.2.1 14 = .ok (.iadd, 1) := by decide +kernel
theorem dReading_takeRows_15 : decode mReading_takeRows.2.1 15 = .ok (.putfield 72, 3) := by decide +kernel
theorem dReading_takeRows_18 : decode mReading_takeRows.2.1 18 = .ok (.iconst 0, 1) := by decide +kernel
theorem dReading_takeRows_19 : decode mReading_takeRows.2.1 19 = .ok (.istore_n 2, 1) := by decide +kernel
theorem dReading_takeRows_20 : decode mReading_takeRows.2.1 20 = .ok (.iload_n 2, 1) := by decide +kernel
theorem dReading_takeRows_21 : decode mReading_takeRows.2.1 21 = .ok (.aload_n 0, 1) := by decide +kernel
theorem dReading_takeRows_22 : decode mReading_takeRows.2.1 22 = .ok (.getfield 59, 3) := by decide +kernel
theorem dReading_takeRows_25 : decode mReading_takeRows.2.1 25 = .ok (.if_icmp .ge 26, 3) := by decide +kernel
theorem dReading_takeRows_28 : decode mReading_takeRows.2.1 28 = .ok (.aload_n 0, 1) := by decide +kernel
theorem dReading_takeRows_29 : decode mReading_takeRows.2.1 29 = .ok (.getfield 29, 3) := by decide +kernel
theorem dReading_takeRows_32 : decode mReading_takeRows.2.1 32 = .ok (.aload_n 0, 1) := by decide +kernel
theorem dReading_takeRows_33 : decode mReading_takeRows.2.1 33 = .ok (.getfield 14, 3) := by decide +kernel
theorem dReading_takeRows_36 : decode mReading_takeRows.2.1 36 = .ok (.iload_n 1, 1) := by decide +kernel
theorem dReading_takeRows_37 : decode mReading_takeRows.2.1 37 = .ok (.iload_n 2, 1) := by decide +kernel
theorem dReading_takeRows_38 : decode mReading_takeRows.2.1 38 = .ok (.iadd, 1) := by decide +kernel
theorem dReading_takeRows_39 : decode mReading_takeRows.2.1 39 = .ok (.invokevirtual 158, 3) := by decide +kernel
theorem dReading_takeRows_42 : decode mReading_takeRows.2.1 42 = .ok (.invokevirtual 206, 3) := by decide +kernel
theorem dReading_takeRows_45 : decode mReading_takeRows.2.1 45 = .ok (.iinc 2 1, 3) := by decide +kernel
theorem dReading_takeRows_48 : decode mReading_takeRows.2.1 48 = .ok (.goto (-28), 3) := by decide +kernel
theorem dReading_takeRows_51 : decode mReading_takeRows.2.1 51 = .ok (.iconst 1, 1) := by decide +kernel
theorem dReading_takeRows_52 : decode mReading_takeRows.2.1 52 = .ok (.ireturn, 1) := by decide +kernel
theorem dReading_takeExtra_0 : decode mReading_takeExtra.2.1 0 = .ok (.aload_n 0, 1) := by decide +kernel
theorem dReading_takeExtra_1 : decode mReading_takeExtra.2.1 1 = .ok (.getfield 59, 3) := by decide +kernel
theorem dReading_takeExtra_4 : decode mReading_takeExtra.2.1 4 = .ok (.bipush 40, 2) := by decide +kernel
theorem dReading_takeExtra_6 : decode mReading_takeExtra.2.1 6 = .ok (.if_icmp .gt 16, 3) := by decide +kernel
theorem dReading_takeExtra_9 : decode mReading_takeExtra.2.1 9 = .ok (.aload_n 0, 1) := by decide +kernel
theorem dReading_takeExtra_10 : decode mReading_takeExtra.2.1 10 = .ok (.getfield 23, 3) := by decide +kernel
theorem dReading_takeExtra_13 : decode mReading_takeExtra.2.1 13 = .ok (.getfield 210, 3) := by decide +kernel
theorem dReading_takeExtra_16 : decode mReading_takeExtra.2.1 16 = .ok (.invokevirtual 214, 3) := by decide +kernel
theorem dReading_takeExtra_19 : decode mReading_takeExtra.2.1 19 = .ok (.ifCond .eq 5, 3) := by decide +kernel
theorem dReading_takeExtra_22 : decode mReading_takeExtra.2.1 22 = .ok (.iconst 0, 1) := by decide +kernel
theorem dReading_takeExtra_23 : decode mReading_takeExtra.2.1 23 = .ok (.ireturn, 1) := by decide +kernel
theorem dReading_takeExtra_24 : decode mReading_takeExtra.2.1 24 = .ok (.aload_n 0, 1) := by decide +kernel
theorem dReading_takeExtra_25 : decode mReading_takeExtra.2.1 25 = .ok (.getfield 23, 3) := by decide +kernel
theorem dReading_takeExtra_28 : decode mReading_takeExtra.2.1 28 = .ok (.getfield 210, 3) := by decide +kernel
theorem dReading_takeExtra_31 : decode mReading_takeExtra.2.1 31 = .ok (.getfield 217, 3) := by decide +kernel
theorem dReading_takeExtra_34 : decode mReading_takeExtra.2.1 34 = .ok (.istore_n 2, 1) := by decide +kernel
theorem dReading_takeExtra_35 : decode mReading_takeExtra.2.1 35 = .ok (.aload_n 0, 1) := by decide +kernel
theorem dReading_takeExtra_36 : decode mReading_takeExtra.2.1 36 = .ok (.getfield 23, 3) := by decide +kernel
theorem dReading_takeExtra_39 : decode mReading_takeExtra.2.1 39 = .ok (.getfield 210, 3) := by decide +kernel
theorem dReading_takeExtra_42 : decode mReading_takeExtra.2.1 42 = .ok (.aload_n 0, 1) := by decide +kernel
theorem dReading_takeExtra_43 : decode mReading_takeExtra.2.1 43 = .ok (.getfield 47, 3) := by decide +kernel
theorem dReading_takeExtra_46 : decode mReading_takeExtra.2.1 46 = .ok (.invokevirtual 218, 3) := by decide +kernel
theorem dReading_takeExtra_49 : decode mReading_takeExtra.2.1 49 = .ok (.iconst 0, 1) := by decide +kernel
theorem dReading_takeExtra_50 : decode mReading_takeExtra.2.1 50 = .ok (.istore_n 3, 1) := by decide +kernel
theorem dReading_takeExtra_51 : decode mReading_takeExtra.2.1 51 = .ok (.iload_n 3, 1) := by decide +kernel
theorem dReading_takeExtra_52 : decode mReading_takeExtra.2.1 52 = .ok (.aload_n 0, 1) := by decide +kernel
theorem dReading_takeExtra_53 : decode mReading_takeExtra.2.1 53 = .ok (.getfield 59, 3) := by decide +kernel
theorem dReading_takeExtra_56 : decode mReading_takeExtra.2.1 56 = .ok (.if_icmp .ge 30, 3) := by decide +kernel
theorem dReading_takeExtra_59 : decode mReading_takeExtra.2.1 59 = .ok (.aload_n 0, 1) := by decide +kernel
theorem dReading_takeExtra_60 : decode mReading_takeExtra.2.1 60 = .ok (.getfield 23, 3) := by decide +kernel
theorem dReading_takeExtra_63 : decode mReading_takeExtra.2.1 63 = .ok (.getfield 210, 3) := by decide +kernel
theorem dReading_takeExtra_66 : decode mReading_takeExtra.2.1 66 = .ok (.iload_n 2, 1) := by decide +kernel
theorem dReading_takeExtra_67 : decode mReading_takeExtra.2.1 67 = .ok (.aload_n 0, 1) := by decide +kernel
theorem dReading_takeExtra_68 : decode mReading_takeExtra.2.1 68 = .ok (.getfield 14, 3) := by decide +kernel
theorem dReading_takeExtra_71 : decode mReading_takeExtra.2.1 71 = .ok (.iload_n 1, 1) := by decide +kernel
theorem dReading_takeExtra_72 : decode mReading_takeExtra.2.1 72 = .ok (.iload_n 3, 1) := by decide +kernel
theorem dReading_takeExtra_73 : decode mReading_takeExtra.2.1 73 = .ok (.iadd, 1) := by decide +kernel
theorem dReading_takeExtra_74 : decode mReading_takeExtra.2.1 74 = .ok (.invokevirtual 158, 3) := by decide +kernel
theorem dReading_takeExtra_77 : decode mReading_takeExtra.2.1 77 = .ok (.invokevirtual 219, 3) := by decide +kernel
theorem dReading_takeExtra_80 : decode mReading_takeExtra.2.1 80 = .ok (.iinc 3 1, 3) := by decide +kernel
theorem dReading_takeExtra_83 : decode mReading_takeExtra.2.1 83 = .ok (.goto (-32), 3) := by decide +kernel
theorem dReading_takeExtra_86 : decode mReading_takeExtra.2.1 86 = .ok (.iconst 1, 1) := by decide +kernel
theorem dReading_takeExtra_87 : decode mReading_takeExtra.2.1 87 = .ok (.ireturn, 1) := by decide +kernel
theorem dReading_end_0 : decode mReading_end.2.1 0 = .ok (.aload_n 0, 1) := by decide +kernel
theorem dReading_end_1 : decode mReading_end.2.1 1 = .ok (.getfield 72, 3) := by decide +kernel
theorem dReading_end_4 : decode mReading_end.2.1 4 = .ok (.aload_n 0, 1) := by decide +kernel
theorem dReading_end_5 : decode mReading_end.2.1 5 = .ok (.getfield 23, 3) := by decide +kernel
theorem dReading_end_8 : decode mReading_end.2.1 8 = .ok (.invokestatic 222, 3) := by decide +kernel
theorem dReading_end_11 : decode mReading_end.2.1 11 = .ok (.if_icmp .ne 17, 3) := by decide +kernel
theorem dReading_end_14 : decode mReading_end.2.1 14 = .ok (.aload_n 0, 1) := by decide +kernel
theorem dReading_end_15 : decode mReading_end.2.1 15 = .ok (.getfield 29, 3) := by decide +kernel
theorem dReading_end_18 : decode mReading_end.2.1 18 = .ok (.aload_n 0, 1) := by decide +kernel
theorem dReading_end_19 : decode mReading_end.2.1 19 = .ok (.getfield 23, 3) := by decide +kernel
theorem dReading_end_22 : decode mReading_end.2.1 22 = .ok (.invokestatic 226, 3) := by decide +kernel
theorem dReading_end_25 : decode mReading_end.2.1 25 = .ok (.ifCond .ne 6, 3) := by decide +kernel
theorem dReading_end_28 : decode mReading_end.2.1 28 = .ok (.bipush 8, 2) := by decide +kernel
theorem dReading_end_30 : decode mReading_end.2.1 30 = .ok (.ireturn, 1) := by decide +kernel
theorem dReading_end_31 : decode mReading_end.2.1 31 = .ok (.aload_n 0, 1) := by decide +kernel
theorem dReading_end_32 : decode mReading_end.2.1 32 = .ok (.iconst 1, 1) := by decide +kernel
theorem dReading_end_33 : decode mReading_end.2.1 33 = .ok (.putfield 39, 3) := by decide +kernel
theorem dReading_end_36 : decode mReading_end.2.1 36 = .ok (.iconst 0, 1) := by decide +kernel
theorem dReading_end_37 : decode mReading_end.2.1 37 = .ok (.ireturn, 1) := by decide +kernel
theorem dTags_init_0 : decode mTags_init.2.1 0 = .ok (.aload_n 0, 1) := by decide +kernel
theorem dTags_init_1 : decode mTags_init.2.1 1 = .ok (.invokespecial 3, 3) := by decide +kernel
theorem dTags_init_4 : decode mTags_init.2.1 4 = .ok (.aload_n 0, 1) := by decide +kernel
theorem dTags_init_5 : decode mTags_init.2.1 5 = .ok (.iconst 3, 1) := by decide +kernel
theorem dTags_init_6 : decode mTags_init.2.1 6 = .ok (.newarray .int, 2) := by decide +kernel
theorem dTags_init_8 : decode mTags_init.2.1 8 = .ok (.dup, 1) := by decide +kernel
theorem dTags_init_9 : decode mTags_init.2.1 9 = .ok (.iconst 0, 1) := by decide +kernel
theorem dTags_init_10 : decode mTags_init.2.1 10 = .ok (.iconst (-1), 1) := by decide +kernel
theorem dTags_init_11 : decode mTags_init.2.1 11 = .ok (.iastore, 1) := by decide +kernel
theorem dTags_init_12 : decode mTags_init.2.1 12 = .ok (.dup, 1) := by decide +kernel
theorem dTags_init_13 : decode mTags_init.2.1 13 = .ok (.iconst 1, 1) := by decide +kernel
theorem dTags_init_14 : decode mTags_init.2.1 14 = .ok (.iconst (-1), 1) := by decide +kernel
theorem dTags_init_15 : decode mTags_init.2.1 15 = .ok (.iastore, 1) := by decide +kernel
theorem dTags_init_16 : decode mTags_init.2.1 16 = .ok (.dup, 1) := by decide +kernel
theorem dTags_init_17 : decode mTags_init.2.1 17 = .ok (.iconst 2, 1) := by decide +kernel
theorem dTags_init_18 : decode mTags_init.2.1 18 = .ok (.iconst (-1), 1) := by decide +kernel
theorem dTags_init_19 : decode mTags_init.2.1 19 = .ok (.iastore, 1) := by decide +kernel
theorem dTags_init_20 : decode mTags_init.2.1 20 = .ok (.putfield 9, 3) := by decide +kernel
theorem dTags_init_23 : decode mTags_init.2.1 23 = .ok (.return_, 1) := by decide +kernel
theorem dTags_isTag_0 : decode mTags_isTag.2.1 0 = .ok (.iload_n 0, 1) := by decide +kernel
theorem dTags_isTag_1 : decode mTags_isTag.2.1 1 = .ok (.ifCond .lt 12, 3) := by decide +kernel
theorem dTags_isTag_4 : decode mTags_isTag.2.1 4 = .ok (.iload_n 0, 1) := by decide +kernel
theorem dTags_isTag_5 : decode mTags_isTag.2.1 5 = .ok (.iconst 3, 1) := by decide +kernel
theorem dTags_isTag_6 : decode mTags_isTag.2.1 6 = .ok (.if_icmp .ge 7, 3) := by decide +kernel
theorem dTags_isTag_9 : decode mTags_isTag.2.1 9 = .ok (.iconst 1, 1) := by decide +kernel
theorem dTags_isTag_10 : decode mTags_isTag.2.1 10 = .ok (.goto 4, 3) := by decide +kernel
theorem dTags_isTag_13 : decode mTags_isTag.2.1 13 = .ok (.iconst 0, 1) := by decide +kernel
theorem dTags_isTag_14 : decode mTags_isTag.2.1 14 = .ok (.ireturn, 1) := by decide +kernel
theorem dTags_mayBe_0 : decode mTags_mayBe.2.1 0 = .ok (.iload_n 0, 1) := by decide +kernel
theorem dTags_mayBe_1 : decode mTags_mayBe.2.1 1 = .ok (.iconst 1, 1) := by decide +kernel
theorem dTags_mayBe_2 : decode mTags_mayBe.2.1 2 = .ok (.if_icmp .ne 20, 3) := by decide +kernel
theorem dTags_mayBe_5 : decode mTags_mayBe.2.1 5 = .ok (.iload_n 1, 1) := by decide +kernel
theorem dTags_mayBe_6 : decode mTags_mayBe.2.1 6 = .ok (.ifCond .lt 12, 3) := by decide +kernel
theorem dTags_mayBe_9 : decode mTags_mayBe.2.1 9 = .ok (.iload_n 1, 1) := by decide +kernel
theorem dTags_mayBe_10 : decode mTags_mayBe.2.1 10 = .ok (.iconst 3, 1) := by decide +kernel
theorem dTags_mayBe_11 : decode mTags_mayBe.2.1 11 = .ok (.if_icmp .gt 7, 3) := by decide +kernel
theorem dTags_mayBe_14 : decode mTags_mayBe.2.1 14 = .ok (.iconst 1, 1) := by decide +kernel
theorem dTags_mayBe_15 : decode mTags_mayBe.2.1 15 = .ok (.goto 17, 3) := by decide +kernel
theorem dTags_mayBe_18 : decode mTags_mayBe.2.1 18 = .ok (.iconst 0, 1) := by decide +kernel
theorem dTags_mayBe_19 : decode mTags_mayBe.2.1 19 = .ok (.goto 13, 3) := by decide +kernel
theorem dTags_mayBe_22 : decode mTags_mayBe.2.1 22 = .ok (.iload_n 1, 1) := by decide +kernel
theorem dTags_mayBe_23 : decode mTags_mayBe.2.1 23 = .ok (.iconst 1, 1) := by decide +kernel
theorem dTags_mayBe_24 : decode mTags_mayBe.2.1 24 = .ok (.if_icmp .lt 7, 3) := by decide +kernel
theorem dTags_mayBe_27 : decode mTags_mayBe.2.1 27 = .ok (.iconst 1, 1) := by decide +kernel
theorem dTags_mayBe_28 : decode mTags_mayBe.2.1 28 = .ok (.goto 4, 3) := by decide +kernel
theorem dTags_mayBe_31 : decode mTags_mayBe.2.1 31 = .ok (.iconst 0, 1) := by decide +kernel
theorem dTags_mayBe_32 : decode mTags_mayBe.2.1 32 = .ok (.ireturn, 1) := by decide +kernel
theorem dTags_clear_0 : decode mTags_clear.2.1 0 = .ok (.aload_n 0, 1) := by decide +kernel
theorem dTags_clear_1 : decode mTags_clear.2.1 1 = .ok (.getfield 9, 3) := by decide +kernel
theorem dTags_clear_4 : decode mTags_clear.2.1 4 = .ok (.iconst (-1), 1) := by decide +kernel
theorem dTags_clear_5 : decode mTags_clear.2.1 5 = .ok (.invokestatic 15, 3) := by decide +kernel
theorem dTags_clear_8 : decode mTags_clear.2.1 8 = .ok (.return_, 1) := by decide +kernel
theorem dTags_has_0 : decode mTags_has.2.1 0 = .ok (.aload_n 0, 1) := by decide +kernel
theorem dTags_has_1 : decode mTags_has.2.1 1 = .ok (.iload_n 1, 1) := by decide +kernel
theorem dTags_has_2 : decode mTags_has.2.1 2 = .ok (.invokevirtual 21, 3) := by decide +kernel
theorem dTags_has_5 : decode mTags_has.2.1 5 = .ok (.iconst (-1), 1) := by decide +kernel
theorem dTags_has_6 : decode mTags_has.2.1 6 = .ok (.if_icmp .eq 7, 3) := by decide +kernel
theorem dTags_has_9 : decode mTags_has.2.1 9 = .ok (.iconst 1, 1) := by decide +kernel
theorem dTags_has_10 : decode mTags_has.2.1 10 = .ok (.goto 4, 3) := by decide +kernel
theorem dTags_has_13 : decode mTags_has.2.1 13 = .ok (.iconst 0, 1) := by decide +kernel
theorem dTags_has_14 : decode mTags_has.2.1 14 = .ok (.ireturn, 1) := by decide +kernel
theorem dTags_value_0 : decode mTags_value.2.1 0 = .ok (.iload_n 1, 1) := by decide +kernel
theorem dTags_value_1 : decode mTags_value.2.1 1 = .ok (.invokestatic 25, 3) := by decide +kernel
theorem dTags_value_4 : decode mTags_value.2.1 4 = .ok (.ifCond .eq 12, 3) := by decide +kernel
theorem dTags_value_7 : decode mTags_value.2.1 7 = .ok (.aload_n 0, 1) := by decide +kernel
theorem dTags_value_8 : decode mTags_value.2.1 8 = .ok (.getfield 9, 3) := by decide +kernel
theorem dTags_value_11 : decode mTags_value.2.1 11 = .ok (.iload_n 1, 1) := by decide +kernel
theorem dTags_value_12 : decode mTags_value.2.1 12 = .ok (.iaload, 1) := by decide +kernel
theorem dTags_value_13 : decode mTags_value.2.1 13 = .ok (.goto 4, 3) := by decide +kernel
theorem dTags_value_16 : decode mTags_value.2.1 16 = .ok (.iconst (-1), 1) := by decide +kernel
theorem dTags_value_17 : decode mTags_value.2.1 17 = .ok (.ireturn, 1) := by decide +kernel
theorem dTags_set_0 : decode mTags_set.2.1 0 = .ok (.iload_n 1, 1) := by decide +kernel
theorem dTags_set_1 : decode mTags_set.2.1 1 = .ok (.invokestatic 25, 3) := by decide +kernel
theorem dTags_set_4 : decode mTags_set.2.1 4 = .ok (.ifCond .eq 10, 3) := by decide +kernel
theorem dTags_set_7 : decode mTags_set.2.1 7 = .ok (.aload_n 0, 1) := by decide +kernel
theorem dTags_set_8 : decode mTags_set.2.1 8 = .ok (.getfield 9, 3) := by decide +kernel
theorem dTags_set_11 : decode mTags_set.2.1 11 = .ok (.iload_n 1, 1) := by decide +kernel
theorem dTags_set_12 : decode mTags_set.2.1 12 = .ok (.iload_n 2, 1) := by decide +kernel
theorem dTags_set_13 : decode mTags_set.2.1 13 = .ok (.iastore, 1) := by decide +kernel
theorem dTags_set_14 : decode mTags_set.2.1 14 = .ok (.return_, 1) := by decide +kernel
theorem dTags_copyFrom_0 : decode mTags_copyFrom.2.1 0 = .ok (.aload_n 1, 1) := by decide +kernel
theorem dTags_copyFrom_1 : decode mTags_copyFrom.2.1 1 = .ok (.getfield 9, 3) := by decide +kernel
theorem dTags_copyFrom_4 : decode mTags_copyFrom.2.1 4 = .ok (.iconst 0, 1) := by decide +kernel
theorem dTags_copyFrom_5 : decode mTags_copyFrom.2.1 5 = .ok (.aload_n 0, 1) := by decide +kernel
theorem dTags_copyFrom_6 : decode mTags_copyFrom.2.1 6 = .ok (.getfield 9, 3) := by decide +kernel
theorem dTags_copyFrom_9 : decode mTags_copyFrom.2.1 9 = .ok (.iconst 0, 1) := by decide +kernel
theorem dTags_copyFrom_10 : decode mTags_copyFrom.2.1 10 = .ok (.aload_n 0, 1) := by decide +kernel
theorem dTags_copyFrom_11 : decode mTags_copyFrom.2.1 11 = .ok (.getfield 9, 3) := by decide +kernel
theorem dTags_copyFrom_14 : decode mTags_copyFrom.2.1 14 = .ok (.arraylength, 1) := by decide +kernel
theorem dTags_copyFrom_15 : decode mTags_copyFrom.2.1 15 = .ok (.invokestatic 29, 3) := by decide +kernel
theorem dTags_copyFrom_18 : decode mTags_copyFrom.2.1 18 = .ok (.return_, 1) := by decide +kernel
theorem dWriting_init_0 : decode mWriting_init.2.1 0 = .ok (.aload_n 0, 1) := by decide +kernel
theorem dWriting_init_1 : decode mWriting_init.2.1 1 = .ok (.invokespecial 1, 3) := by decide +kernel
theorem dWriting_init_4 : decode mWriting_init.2.1 4 = .ok (.aload_n 0, 1) := by decide +kernel
theorem dWriting_init_5 : decode mWriting_init.2.1 5 = .ok (.new 7, 3) := by decide +kernel
theorem dWriting_init_8 : decode mWriting_init.2.1 8 = .ok (.dup, 1) := by decide +kernel
theorem dWriting_init_9 : decode mWriting_init.2.1 9 = .ok (.sipush 1115, 3) := by decide +kernel
theorem dWriting_init_12 : decode mWriting_init.2.1 12 = .ok (.invokespecial 11, 3) := by decide +kernel
theorem dWriting_init_15 : decode mWriting_init.2.1 15 = .ok (.putfield 14, 3) := by decide +kernel
theorem dWriting_init_18 : decode mWriting_init.2.1 18 = .ok (.aload_n 0, 1) := by decide +kernel
theorem dWriting_init_19 : decode mWriting_init.2.1 19 = .ok (.new 7, 3) := by decide +kernel
theorem dWriting_init_22 : decode mWriting_init.2.1 22 = .ok (.dup, 1) := by decide +kernel
theorem dWriting_init_23 : decode mWriting_init.2.1 23 = .ok (.sipush 588, 3) := by decide +kernel
theorem dWriting_init_26 : decode mWriting_init.2.1 26 = .ok (.invokespecial 11, 3) := by decide +kernel
theorem dWriting_init_29 : decode mWriting_init.2.1 29 = .ok (.putfield 20, 3) := by decide +kernel
theorem dWriting_init_32 : decode mWriting_init.2.1 32 = .ok (.return_, 1) := by decide +kernel
theorem dWriting_run_0 : decode mWriting_run.2.1 0 = .ok (.aload_n 0, 1) := by decide +kernel
theorem dWriting_run_1 : decode mWriting_run.2.1 1 = .ok (.getfield 14, 3) := by decide +kernel
theorem dWriting_run_4 : decode mWriting_run.2.1 4 = .ok (.invokevirtual 23, 3) := by decide +kernel
theorem dWriting_run_7 : decode mWriting_run.2.1 7 = .ok (.aload_n 0, 1) := by decide +kernel
theorem dWriting_run_8 : decode mWriting_run.2.1 8 = .ok (.getfield 14, 3) := by decide +kernel
theorem dWriting_run_11 : decode mWriting_run.2.1 11 = .ok (.invokevirtual 26, 3) := by decide +kernel
theorem dWriting_run_14 : decode mWriting_run.2.1 14 = .ok (.aload_n 0, 1) := by decide +kernel
theorem dWriting_run_15 : decode mWriting_run.2.1 15 = .ok (.aload_n 1, 1) := by decide +kernel
theorem dWriting_run_16 : decode mWriting_run.2.1 16 = .ok (.invokevirtual 29, 3) := by decide +kernel
theorem dWriting_run_19 : decode mWriting_run.2.1 19 = .ok (.aload_n 0, 1) := by decide +kernel
theorem dWriting_run_20 : decode mWriting_run.2.1 20 = .ok (.aload_n 1, 1) := by decide +kernel
theorem dWriting_run_21 : decode mWriting_run.2.1 21 = .ok (.getfield 33, 3) := by decide +kernel
theorem dWriting_run_24 : decode mWriting_run.2.1 24 = .ok (.invokevirtual 39, 3) := by decide +kernel
theorem dWriting_run_27 : decode mWriting_run.2.1 27 = .ok (.aload_n 1, 1) := by decide +kernel
theorem dWriting_run_28 : decode mWriting_run.2.1 28 = .ok (.getfield 43, 3) := by decide +kernel
theorem dWriting_run_31 : decode mWriting_run.2.1 31 = .ok (.iconst 3, 1) := by decide +kernel
theorem dWriting_run_32 : decode mWriting_run.2.1 32 = .ok (.if_icmp .ne 19, 3) := by decide +kernel
theorem dWriting_run_35 : decode mWriting_run.2.1 35 = .ok (.aload_n 0, 1) := by decide +kernel
theorem dWriting_run_36 : decode mWriting_run.2.1 36 = .ok (.aload_n 1, 1) := by decide +kernel
theorem dWriting_run_37 : decode mWriting_run.2.1 37 = .ok (.getfield 49, 3) := by decide +kernel
theorem dWriting_run_40 : decode mWriting_run.2.1 40 = .ok (.invokevirtual 53, 3) := by decide +kernel
theorem dWriting_run_43 : decode mWriting_run.2.1 43 = .ok (.aload_n 0, 1) := by decide +kernel
theorem dWriting_run_44 : decode mWriting_run.2.1 44 = .ok (.aload_n 1, 1) := by decide +kernel
theorem dWriting_run_45 : decode mWriting_run.2.1 45 = .ok (.getfield 49, 3) := by decide +kernel
theorem dWriting_run_48 : decode mWriting_run.2.1 48 = .ok (.invokevirtual 57, 3) := by decide +kernel
theorem dWriting_run_51 : decode mWriting_run.2.1 51 = .ok (.aload_n 0, 1) := by decide +kernel
theorem dWriting_run_52 : decode mWriting_run.2.1 52 = .ok (.aload_n 1, 1) := by decide +kernel
theorem dWriting_run_53 : decode mWriting_run.2.1 53 = .ok (.invokevirtual 60, 3) := by decide +kernel
theorem dWriting_run_56 : decode mWriting_run.2.1 56 = .ok (.aload_n 0, 1) := by decide +kernel
theorem dWriting_run_57 : decode mWriting_run.2.1 57 = .ok (.aload_n 1, 1) := by decide +kernel
theorem dWriting_run_58 : decode mWriting_run.2.1 58 = .ok (.getfield 63, 3) := by decide +kernel
theorem dWriting_run_61 : decode mWriting_run.2.1 61 = .ok (.invokevirtual 67, 3) := by decide +kernel
theorem dWriting_run_64 : decode mWriting_run.2.1 64 = .ok (.aload_n 0, 1) := by decide +kernel
theorem dWriting_run_65 : decode mWriting_run.2.1 65 = .ok (.ldc 73, 2) := by decide +kernel
theorem dWriting_run_67 : decode mWriting_run.2.1 67 = .ok (.invokevirtual 74, 3) := by decide +kernel
theorem dWriting_run_70 : decode mWriting_run.2.1 70 = .ok (.aload_n 0, 1) := by decide +kernel
theorem dWriting_run_71 : decode mWriting_run.2.1 71 = .ok (.invokevirtual 77, 3) := by decide +kernel
theorem dWriting_run_74 : decode mWriting_run.2.1 74 = .ok (.return_, 1) := by decide +kernel
theorem dWriting_open_0 : decode mWriting_open.2.1 0 = .ok (.aload_n 0, 1) := by decide +kernel
theorem dWriting_open_1 : decode mWriting_open.2.1 1 = .ok (.aload_n 0, 1) := by decide +kernel
theorem dWriting_open_2 : decode mWriting_open.2.1 2 = .ok (.getfield 14, 3) := by decide +kernel
theorem dWriting_open_5 : decode mWriting_open.2.1 5 = .ok (.getfield 80, 3) := by decide +kernel
theorem dWriting_open_8 : decode mWriting_open.2.1 8 = .ok (.putfield 83, 3) := by decide +kernel
theorem dWriting_open_11 : decode mWriting_open.2.1 11 = .ok (.aload_n 0, 1) := by decide +kernel
theorem dWriting_open_12 : decode mWriting_open.2.1 12 = .ok (.getfield 14, 3) := by decide +kernel
theorem dWriting_open_15 : decode mWriting_open.2.1 15 = .ok (.iconst 0, 1) := by decide +kernel
theorem dWriting_open_16 : decode mWriting_open.2.1 16 = .ok (.invokevirtual 86, 3) := by decide +kernel
theorem dWriting_open_19 : decode mWriting_open.2.1 19 = .ok (.aload_n 0, 1) := by decide +kernel
theorem dWriting_open_20 : decode mWriting_open.2.1 20 = .ok (.getfield 14, 3) := by decide +kernel
theorem dWriting_open_23 : decode mWriting_open.2.1 23 = .ok (.iload_n 1, 1) := by decide +kernel
theorem dWriting_open_24 : decode mWriting_open.2.1 24 = .ok (.invokevirtual 86, 3) := by decide +kernel
theorem dWriting_open_27 : decode mWriting_open.2.1 27 = .ok (.return_, 1) := by decide +kernel
theorem dWriting_close_0 : decode mWriting_close.2.1 0 = .ok (.aload_n 0, 1) := by decide +kernel
theorem dWriting_close_1 : decode mWriting_close.2.1 1 = .ok (.getfield 14, 3) := by decide +kernel
theorem dWriting_close_4 : decode mWriting_close.2.1 4 = .ok (.getfield 80, 3) := by decide +kernel
theorem dWriting_close_7 : decode mWriting_close.2.1 7 = .ok (.aload_n 0, 1) := by decide +kernel
theorem dWriting_close_8 : decode mWriting_close.2.1 8 = .ok (.getfield 83, 3) := by decide +kernel
theorem dWriting_close_11 : decode mWriting_close.2.1 11 = .ok (.isub, 1) := by decide +kernel
theorem dWriting_close_12 : decode mWriting_close.2.1 12 = .ok (.bipush 8, 2) := by decide +kernel
theorem dWriting_close_14 : decode mWriting_close.2.1 14 = .ok (.isub, 1) := by decide +kernel
theorem dWriting_close_15 : decode mWriting_close.2.1 15 = .ok (.istore_n 1, 1) := by decide +kernel
theorem dWriting_close_16 : decode mWriting_close.2.1 16 = .ok (.aload_n 0, 1) := by decide +kernel
theorem dWriting_close_17 : decode mWriting_close.2.1 17 = .ok (.getfield 14, 3) := by decide +kernel
theorem dWriting_close_20 : decode mWriting_close.2.1 20 = .ok (.aload_n 0, 1) := by decide +kernel
theorem dWriting_close_21 : decode mWriting_close.2.1 21 = .ok (.getfield 83, 3) := by decide +kernel
theorem dWriting_close_24 : decode mWriting_close.2.1 24 = .ok (.iload_n 1, 1) := by decide +kernel
theorem dWriting_close_25 : decode mWriting_close.2.1 25 = .ok (.invokevirtual 89, 3) := by decide +kernel
theorem dWriting_close_28 : decode mWriting_close.2.1 28 = .ok (.aload_n 0, 1) := by decide +kernel
theorem dWriting_close_29 : decode mWriting_close.2.1 29 = .ok (.getfield 14, 3) := by decide +kernel
theorem dWriting_close_32 : decode mWriting_close.2.1 32 = .ok (.aload_n 0, 1) := by decide +kernel
theorem dWriting_close_33 : decode mWriting_close.2.1 33 = .ok (.getfield 14, 3) := by decide +kernel
theorem dWriting_close_36 : decode mWriting_close.2.1 36 = .ok (.aload_n 0, 1) := by decide +kernel
theorem dWriting_close_37 : decode mWriting_close.2.1 37 = .ok (.getfield 83, 3) := by decide +kernel
theorem dWriting_close_40 : decode mWriting_close.2.1 40 = .ok (.iload_n 1, 1) := by decide +kernel
theorem dWriting_close_41 : decode mWriting_close.2.1 41 = .ok (.invokevirtual 93, 3) := by decide +kernel
theorem dWriting_close_44 : decode mWriting_close.2.1 44 = .ok (.invokevirtual 86, 3) := by decide +kernel
theorem dWriting_close_47 : decode mWriting_close.2.1 47 = .ok (.return_, 1) := by decide +kernel
theorem dWriting_addHead_0 : decode mWriting_addHead.2.1 0 = .ok (.aload_n 0, 1) := by decide +kernel
theorem dWriting_addHead_1 : decode mWriting_addHead.2.1 1 = .ok (.ldc 97, 2) := by decide +kernel
theorem dWriting_addHead_3 : decode mWriting_addHead.2.1 3 = .ok (.invokevirtual 74, 3) := by decide +kernel
theorem dWriting_addHead_6 : decode mWriting_addHead.2.1 6 = .ok (.aload_n 0, 1) := by decide +kernel
theorem dWriting_addHead_7 : decode mWriting_addHead.2.1 7 = .ok (.getfield 14, 3) := by decide +kernel
theorem dWriting_addHead_10 : decode mWriting_addHead.2.1 10 = .ok (.aload_n 1, 1) := by decide +kernel
theorem dWriting_addHead_11 : decode mWriting_addHead.2.1 11 = .ok (.getfield 98, 3) := by decide +kernel
theorem dWriting_addHead_14 : decode mWriting_addHead.2.1 14 = .ok (.invokevirtual 86, 3) := by decide +kernel
theorem dWriting_addHead_17 : decode mWriting_addHead.2.1 17 = .ok (.aload_n 0, 1) := by decide +kernel
theorem dWriting_addHead_18 : decode mWriting_addHead.2.1 18 = .ok (.getfield 14, 3) := by decide +kernel
theorem dWriting_addHead_21 : decode mWriting_addHead.2.1 21 = .ok (.aload_n 1, 1) := by decide +kernel
theorem dWriting_addHead_22 : decode mWriting_addHead.2.1 22 = .ok (.getfield 101, 3) := by decide +kernel
theorem dWriting_addHead_25 : decode mWriting_addHead.2.1 25 = .ok (.invokevirtual 86, 3) := by decide +kernel
theorem dWriting_addHead_28 : decode mWriting_addHead.2.1 28 = .ok (.aload_n 0, 1) := by decide +kernel
theorem dWriting_addHead_29 : decode mWriting_addHead.2.1 29 = .ok (.getfield 14, 3) := by decide +kernel
theorem dWriting_addHead_32 : decode mWriting_addHead.2.1 32 = .ok (.aload_n 1, 1) := by decide +kernel
theorem dWriting_addHead_33 : decode mWriting_addHead.2.1 33 = .ok (.getfield 104, 3) := by decide +kernel
theorem dWriting_addHead_36 : decode mWriting_addHead.2.1 36 = .ok (.invokevirtual 107, 3) := by decide +kernel
theorem dWriting_addHead_39 : decode mWriting_addHead.2.1 39 = .ok (.aload_n 0, 1) := by decide +kernel
theorem dWriting_addHead_40 : decode mWriting_addHead.2.1 40 = .ok (.getfield 14, 3) := by decide +kernel
theorem dWriting_addHead_43 : decode mWriting_addHead.2.1 43 = .ok (.aload_n 1, 1) := by decide +kernel
theorem dWriting_addHead_44 : decode mWriting_addHead.2.1 44 = .ok (.getfield 43, 3) := by decide +kernel
theorem dWriting_addHead_47 : decode mWriting_addHead.2.1 47 = .ok (.invokevirtual 107, 3) := by decide +kernel
theorem dWriting_addHead_50 : decode mWriting_addHead.2.1 50 = .ok (.aload_n 0, 1) := by decide +kernel
theorem dWriting_addHead_51 : decode mWriting_addHead.2.1 51 = .ok (.getfield 14, 3) := by decide +kernel
theorem dWriting_addHead_54 : decode mWriting_addHead.2.1 54 = .ok (.iconst 0, 1) := by decide +kernel
theorem dWriting_addHead_55 : decode mWriting_addHead.2.1 55 = .ok (.invokevirtual 107, 3) := by decide +kernel
theorem dWriting_addHead_58 : decode mWriting_addHead.2.1 58 = .ok (.aload_n 0, 1) := by decide +kernel
theorem dWriting_addHead_59 : decode mWriting_addHead.2.1 59 = .ok (.getfield 14, 3) := by decide +kernel
theorem dWriting_addHead_62 : decode mWriting_addHead.2.1 62 = .ok (.iconst 0, 1) := by decide +kernel
theorem dWriting_addHead_63 : decode mWriting_addHead.2.1 63 = .ok (.invokevirtual 107, 3) := by decide +kernel
theorem dWriting_addHead_66 : decode mWriting_addHead.2.1 66 = .ok (.aload_n 0, 1) := by decide +kernel
theorem dWriting_addHead_67 : decode mWriting_addHead.2.1 67 = .ok (.getfield 14, 3) := by decide +kernel
theorem dWriting_addHead_70 : decode mWriting_addHead.2.1 70 = .ok (.iconst 0, 1) := by decide +kernel
theorem dWriting_addHead_71 : decode mWriting_addHead.2.1 71 = .ok (.invokevirtual 107, 3) := by decide +kernel
theorem dWriting_addHead_74 : decode mWriting_addHead.2.1 74 = .ok (.aload_n 0, 1) := by decide +kernel
theorem dWriting_addHead_75 : decode mWriting_addHead.2.1 75 = .ok (.invokevirtual 77, 3) := by decide +kernel
theorem dWriting_addHead_78 : decode mWriting_addHead.2.1 78 = .ok (.return_, 1) := by decide +kernel
theorem dWriting_addTags_0 : decode mWriting_addTags.2.1 0 = .ok (.aload_n 1, 1) := by decide +kernel
theorem dWriting_addTags_1 : decode mWriting_addTags.2.1 1 = .ok (.iconst 0, 1) := by decide +kernel
theorem dWriting_addTags_2 : decode mWriting_addTags.2.1 2 = .ok (.invokevirtual 112, 3) := by decide +kernel
theorem dWriting_addTags_5 : decode mWriting_addTags.2.1 5 = .ok (.ifCond .eq 25, 3) := by decide +kernel
theorem dWriting_addTags_8 : decode mWriting_addTags.2.1 8 = .ok (.aload_n 0, 1) := by decide +kernel
theorem dWriting_addTags_9 : decode mWriting_addTags.2.1 9 = .ok (.ldc 116, 2) := by decide +kernel
theorem dWriting_addTags_11 : decode mWriting_addTags.2.1 11 = .ok (.invokevirtual 74, 3) := by decide +kernel
theorem dWriting_addTags_14 : decode mWriting_addTags.2.1 14 = .ok (.aload_n 0, 1) := by decide +kernel
theorem dWriting_addTags_15 : decode mWriting_addTags.2.1 15 = .ok (.getfield 14, 3) := by decide +kernel
theorem dWriting_addTags_18 : decode mWriting_addTags.2.1 18 = .ok (.aload_n 1, 1) := by decide +kernel
theorem dWriting_addTags_19 : decode mWriting_addTags.2.1 19 = .ok (.iconst 0, 1) := by decide +kernel
theorem dWriting_addTags_20 : decode mWriting_addTags.2.1 20 = .ok (.invokevirtual 117, 3) := by decide +kernel
theorem dWriting_addTags_23 : decode mWriting_addTags.2.1 23 = .ok (.invokevirtual 86, 3) := by decide +kernel
theorem dWriting_addTags_26 : decode mWriting_addTags.2.1 26 = .ok (.aload_n 0, 1) := by decide +kernel
theorem dWriting_addTags_27 : decode mWriting_addTags.2.1 27 = .ok (.invokevirtual 77, 3) := by decide +kernel
theorem dWriting_addTags_30 : decode mWriting_addTags.2.1 30 = .ok (.aload_n 1, 1) := by decide +kernel
theorem dWriting_addTags_31 : decode mWriting_addTags.2.1 31 = .ok (.iconst 1, 1) := by decide +kernel
theorem dWriting_addTags_32 : decode mWriting_addTags.2.1 32 = .ok (.invokevirtual 112, 3) := by decide +kernel
theorem dWriting_addTags_35 : decode mWriting_addTags.2.1 35 = .ok (.ifCond .eq 25, 3) := by decide +kernel
theorem dWriting_addTags_38 : decode mWriting_addTags.2.1 38 = .ok (.aload_n 0, 1) := by decide +kernel
theorem dWriting_addTags_39 : decode mWriting_addTags.2.1 39 = .ok (.ldc 121, 2) := by decide +kernel
theorem dWriting_addTags_41 : decode mWriting_addTags.2.1 41 = .ok (.invokevirtual 74, 3) := by decide +kernel
theorem dWriting_addTags_44 : decode mWriting_addTags.2.1 44 = .ok (.aload_n 0, 1) := by decide +kernel
theorem dWriting_addTags_45 : decode mWriting_addTags.2.1 45 = .ok (.getfield 14, 3) := by decide +kernel
theorem dWriting_addTags_48 : decode mWriting_addTags.2.1 48 = .ok (.aload_n 1, 1) := by decide +kernel
theorem dWriting_addTags_49 : decode mWriting_addTags.2.1 49 = .ok (.iconst 1, 1) := by decide +kernel
theorem dWriting_addTags_50 : decode mWriting_addTags.2.1 50 = .ok (.invokevirtual 117, 3) := by decide +kernel
theorem dWriting_addTags_53 : decode mWriting_addTags.2.1 53 = .ok (.invokevirtual 107, 3) := by decide +kernel
theorem dWriting_addTags_56 : decode mWriting_addTags.2.1 56 = .ok (.aload_n 0, 1) := by decide +kernel
theorem dWriting_addTags_57 : decode mWriting_addTags.2.1 57 = .ok (.invokevirtual 77, 3) := by decide +kernel
theorem dWriting_addTags_60 : decode mWriting_addTags.2.1 60 = .ok (.aload_n 1, 1) := by decide +kernel
theorem dWriting_addTags_61 : decode mWriting_addTags.2.1 61 = .ok (.iconst 2, 1) := by decide +kernel
theorem dWriting_addTags_62 : decode mWriting_addTags.2.1 62 = .ok (.invokevirtual 112, 3) := by decide +kernel
theorem dWriting_addTags_65 : decode mWriting_addTags.2.1 65 = .ok (.ifCond .eq 45, 3) := by decide +kernel
theorem dWriting_addTags_68 : decode mWriting_addTags.2.1 68 = .ok (.aload_n 0, 1) := by decide +kernel
theorem dWriting_addTags_69 : decode mWriting_addTags.2.1 69 = .ok (.ldc 122, 2) := by decide +kernel
theorem dWriting_addTags_71 : decode mWriting_addTags.2.1 71 = .ok (.invokevirtual 74, 3) := by decide +kernel
theorem dWriting_addTags_74 : decode mWriting_addTags.2.1 74 = .ok (.aload_n 0, 1) := by decide +kernel
theorem dWriting_addTags_75 : decode mWriting_addTags.2.1 75 = .ok (.getfield 14, 3) := by decide +kernel
theorem dWriting_addTags_78 : decode mWriting_addTags.2.1 78 = .ok (.aload_n 1, 1) := by decide +kernel
theorem dWriting_addTags_79 : decode mWriting_addTags.2.1 79 = .ok (.iconst 2, 1) := by decide +kernel
theorem dWriting_addTags_80 : decode mWriting_addTags.2.1 80 = .ok (.invokevirtual 117, 3) := by decide +kernel
theorem dWriting_addTags_83 : decode mWriting_addTags.2.1 83 = .ok (.invokevirtual 86, 3) := by decide +kernel
theorem dWriting_addTags_86 : decode mWriting_addTags.2.1 86 = .ok (.aload_n 0, 1) := by decide +kernel
theorem dWriting_addTags_87 : decode mWriting_addTags.2.1 87 = .ok (.getfield 14, 3) := by decide +kernel
theorem dWriting_addTags_90 : decode mWriting_addTags.2.1 90 = .ok (.aload_n 1, 1) := by decide +kernel
theorem dWriting_addTags_91 : decode mWriting_addTags.2.1 91 = .ok (.iconst 2, 1) := by decide +kernel
theorem dWriting_addTags_92 : decode mWriting_addTags.2.1 92 = .ok (.invokevirtual 117, 3) := by decide +kernel
theorem dWriting_addTags_95 : decode mWriting_addTags.2.1 95 = .ok (.invokevirtual 86, 3) := by decide +kernel
theorem dWriting_addTags_98 : decode mWriting_addTags.2.1 98 = .ok (.aload_n 0, 1) := by decide +kernel
theorem dWriting_addTags_99 : decode mWriting_addTags.2.1 99 = .ok (.getfield 14, 3) := by decide +kernel
theorem dWriting_addTags_102 : decode mWriting_addTags.2.1 102 = .ok (.iconst 1, 1) := by decide +kernel
theorem dWriting_addTags_103 : decode mWriting_addTags.2.1 103 = .ok (.invokevirtual 107, 3) := by decide +kernel
theorem dWriting_addTags_106 : decode mWriting_addTags.2.1 106 = .ok (.aload_n 0, 1) := by decide +kernel
theorem dWriting_addTags_107 : decode mWriting_addTags.2.1 107 = .ok (.invokevirtual 77, 3) := by decide +kernel
theorem dWriting_addTags_110 : decode mWriting_addTags.2.1 110 = .ok (.return_, 1) := by decide +kernel
theorem dWriting_addPalette_0 : decode mWriting_addPalette.2.1 0 = .ok (.aload_n 0, 1) := by decide +kernel
theorem dWriting_addPalette_1 : decode mWriting_addPalette.2.1 1 = .ok (.ldc 123, 2) := by decide +kernel
theorem dWriting_addPalette_3 : decode mWriting_addPalette.2.1 3 = .ok (.invokevirtual 74, 3) := by decide +kernel
theorem dWriting_addPalette_6 : decode mWriting_addPalette.2.1 6 = .ok (.iconst 0, 1) := by decide +kernel
theorem dWriting_addPalette_7 : decode mWriting_addPalette.2.1 7 = .ok (.istore_n 2, 1) := by decide +kernel
theorem dWriting_addPalette_8 : decode mWriting_addPalette.2.1 8 = .ok (.iload_n 2, 1) := by decide +kernel
theorem dWriting_addPalette_9 : decode mWriting_addPalette.2.1 9 = .ok (.aload_n 1, 1) := by decide +kernel
theorem dWriting_addPalette_10 : decode mWriting_addPalette.2.1 10 = .ok (.getfield 124, 3) := by decide +kernel
theorem dWriting_addPalette_13 : decode mWriting_addPalette.2.1 13 = .ok (.if_icmp .ge 35, 3) := by decide +kernel
theorem dWriting_addPalette_16 : decode mWriting_addPalette.2.1 16 = .ok (.iconst 0, 1) := by decide +kernel
theorem dWriting_addPalette_17 : decode mWriting_addPalette.2.1 17 = .ok (.istore_n 3, 1) := by decide +kernel
theorem dWriting_addPalette_18 : decode mWriting_addPalette.2.1 18 = .ok (.iload_n 3, 1) := by decide +kernel
theorem dWriting_addPalette_19 : decode mWriting_addPalette.2.1 19 = .ok (.iconst 3, 1) := by decide +kernel
theorem dWriting_addPalette_20 : decode mWriting_addPalette.2.1 20 = .ok (.if_icmp .ge 22, 3) := by decide +kernel
theorem dWriting_addPalette_23 : decode mWriting_addPalette.2.1 23 = .ok (.aload_n 0, 1) := by decide +kernel
theorem dWriting_addPalette_24 : decode mWriting_addPalette.2.1 24 = .ok (.getfield 14, 3) := by decide +kernel
theorem dWriting_addPalette_27 : decode mWriting_addPalette.2.1 27 = .ok (.aload_n 1, 1) := by decide +kernel
theorem dWriting_addPalette_28 : decode mWriting_addPalette.2.1 28 = .ok (.iload_n 2, 1) := by decide +kernel
theorem dWriting_addPalette_29 : decode mWriting_addPalette.2.1 29 = .ok (.iload_n 3, 1) := by decide +kernel
theorem dWriting_addPalette_30 : decode mWriting_addPalette.2.1 30 = .ok (.invokevirtual 127, 3) := by decide +kernel
theorem dWriting_addPalette_33 : decode mWriting_addPalette.2.1 33 = .ok (.invokevirtual 107, 3) := by decide +kernel
theorem dWriting_addPalette_36 : decode mWriting_addPalette.2.1 36 = .ok (.iinc 3 1, 3) := by decide +kernel
theorem dWriting_addPalette_39 : decode mWriting_addPalette.2.1 39 = .ok (.goto (-21), 3) := by decide +kernel
theorem dWriting_addPalette_42 : decode mWriting_addPalette.2.1 42 = .ok (.iinc 2 1, 3) := by decide +kernel
theorem dWriting_addPalette_45 : decode mWriting_addPalette.2.1 45 = .ok (.goto (-37), 3) := by decide +kernel
theorem dWriting_addPalette_48 : decode mWriting_addPalette.2.1 48 = .ok (.aload_n 0, 1) := by decide +kernel
theorem dWriting_addPalette_49 : decode mWriting_addPalette.2.1 49 = .ok (.invokevirtual 77, 3) := by decide +kernel
theorem dWriting_addPalette_52 : decode mWriting_addPalette.2.1 52 = .ok (.return_, 1) := by decide +kernel
theorem dWriting_addAlphas_0 : decode mWriting_addAlphas.2.1 0 = .ok (.aload_n 1, 1) := by decide +kernel
theorem dWriting_addAlphas_1 : decode mWriting_addAlphas.2.1 1 = .ok (.invokevirtual 130, 3) := by decide +kernel
theorem dWriting_addAlphas_4 : decode mWriting_addAlphas.2.1 4 = .ok (.istore_n 2, 1) := by decide +kernel
theorem dWriting_addAlphas_5 : decode mWriting_addAlphas.2.1 5 = .ok (.iload_n 2, 1) := by decide +kernel
theorem dWriting_addAlphas_6 : decode mWriting_addAlphas.2.1 6 = .ok (.ifCond .le 39, 3) := by decide +kernel
theorem dWriting_addAlphas_9 : decode mWriting_addAlphas.2.1 9 = .ok (.aload_n 0, 1) := by decide +kernel
theorem dWriting_addAlphas_10 : decode mWriting_addAlphas.2.1 10 = .ok (.ldc 134, 2) := by decide +kernel
theorem dWriting_addAlphas_12 : decode mWriting_addAlphas.2.1 12 = .ok (.invokevirtual 74, 3) := by decide +kernel
theorem dWriting_addAlphas_15 : decode mWriting_addAlphas.2.1 15 = .ok (.iconst 0, 1) := by decide +kernel
theorem dWriting_addAlphas_16 : decode mWriting_addAlphas.2.1 16 = .ok (.istore_n 3, 1) := by decide +kernel
theorem dWriting_addAlphas_17 : decode mWriting_addAlphas.2.1 17 = .ok (.iload_n 3, 1) := by decide +kernel
theorem dWriting_addAlphas_18 : decode mWriting_addAlphas.2.1 18 = .ok (.iload_n 2, 1) := by decide +kernel
theorem dWriting_addAlphas_19 : decode mWriting_addAlphas.2.1 19 = .ok (.if_icmp .ge 22, 3) := by decide +kernel
theorem dWriting_addAlphas_22 : decode mWriting_addAlphas.2.1 22 = .ok (.aload_n 0, 1) := by decide +kernel
theorem dWriting_addAlphas_23 : decode mWriting_addAlphas.2.1 23 = .ok (.getfield 14, 3) := by decide +kernel
theorem dWriting_addAlphas_26 : decode mWriting_addAlphas.2.1 26 = .ok (.aload_n 1, 1) := by decide +kernel
theorem dWriting_addAlphas_27 : decode mWriting_addAlphas.2.1 27 = .ok (.iload_n 3, 1) := by decide +kernel
theorem dWriting_addAlphas_28 : decode mWriting_addAlphas.2.1 28 = .ok (.iconst 3, 1) := by decide +kernel
theorem dWriting_addAlphas_29 : decode mWriting_addAlphas.2.1 29 = .ok (.invokevirtual 127, 3) := by decide +kernel
theorem dWriting_addAlphas_32 : decode mWriting_addAlphas.2.1 32 = .ok (.invokevirtual 107, 3) := by decide +kernel
theorem dWriting_addAlphas_35 : decode mWriting_addAlphas.2.1 35 = .ok (.iinc 3 1, 3) := by decide +kernel
theorem dWriting_addAlphas_38 : decode mWriting_addAlphas.2.1 38 = .ok (.goto (-21), 3) := by decide +kernel
theorem dWriting_addAlphas_41 : decode mWriting_addAlphas.2.1 41 = .ok (.aload_n 0, 1) := by decide +kernel
theorem dWriting_addAlphas_42 : decode mWriting_addAlphas.2.1 42 = .ok (.invokevirtual 77, 3) := by decide +kernel
theorem dWriting_addAlphas_45 : decode mWriting_addAlphas.2.1 45 = .ok (.return_, 1) := by decide +kernel
theorem dWriting_addRows_0 : decode mWriting_addRows.2.1 0 = .ok (.aload_n 1, 1) := by decide +kernel
theorem dWriting_addRows_1 : decode mWriting_addRows.2.1 1 = .ok (.aload_n 0, 1) := by decide +kernel
theorem dWriting_addRows_2 : decode mWriting_addRows.2.1 2 = .ok (.getfield 20, 3) := by decide +kernel
theorem dWriting_addRows_5 : decode mWriting_addRows.2.1 5 = .ok (.invokestatic 135, 3) := by decide +kernel
theorem dWriting_addRows_8 : decode mWriting_addRows.2.1 8 = .ok (.iconst 0, 1) := by decide +kernel
theorem dWriting_addRows_9 : decode mWriting_addRows.2.1 9 = .ok (.istore_n 2, 1) := by decide +kernel
theorem dWriting_addRows_10 : decode mWriting_addRows.2.1 10 = .ok (.iload_n 2, 1) := by decide +kernel
theorem dWriting_addRows_11 : decode mWriting_addRows.2.1 11 = .ok (.aload_n 0, 1) := by decide +kernel
theorem dWriting_addRows_12 : decode mWriting_addRows.2.1 12 = .ok (.getfield 20, 3) := by decide +kernel
theorem dWriting_addRows_15 : decode mWriting_addRows.2.1 15 = .ok (.getfield 80, 3) := by decide +kernel
theorem dWriting_addRows_18 : decode mWriting_addRows.2.1 18 = .ok (.if_icmp .ge 65, 3) := by decide +kernel
theorem dWriting_addRows_21 : decode mWriting_addRows.2.1 21 = .ok (.aload_n 0, 1) := by decide +kernel
theorem dWriting_addRows_22 : decode mWriting_addRows.2.1 22 = .ok (.getfield 20, 3) := by decide +kernel
theorem dWriting_addRows_25 : decode mWriting_addRows.2.1 25 = .ok (.getfield 80, 3) := by decide +kernel
theorem dWriting_addRows_28 : decode mWriting_addRows.2.1 28 = .ok (.iload_n 2, 1) := by decide +kernel
theorem dWriting_addRows_29 : decode mWriting_addRows.2.1 29 = .ok (.bipush 60, 2) := by decide +kernel
theorem dWriting_addRows_31 : decode mWriting_addRows.2.1 31 = .ok (.iadd, 1) := by decide +kernel
theorem dWriting_addRows_32 : decode mWriting_addRows.2.1 32 = .ok (.invokestatic 139, 3) := by decide +kernel
theorem dWriting_addRows_35 : decode mWriting_addRows.2.1 35 = .ok (.istore_n 3, 1) := by decide +kernel
theorem dWriting_addRows_36 : decode mWriting_addRows.2.1 36 = .ok (.aload_n 0, 1) := by decide +kernel
theorem dWriting_addRows_37 : decode mWriting_addRows.2.1 37 = .ok (.ldc 144, 2) := by decide +kernel
theorem dWriting_addRows_39 : decode mWriting_addRows.2.1 39 = .ok (.invokevirtual 74, 3) := by decide +kernel
theorem dWriting_addRows_42 : decode mWriting_addRows.2.1 42 = .ok (.iload_n 2, 1) := by decide +kernel
theorem dWriting_addRows_43 : decode mWriting_addRows.2.1 43 = .ok (.istore 4, 2) := by decide +kernel
theorem dWriting_addRows_45 : decode mWriting_addRows.2.1 45 = .ok (.iload 4, 2) := by decide +kernel
theorem dWriting_addRows_47 : decode mWriting_addRows.2.1 47 = .ok (.iload_n 3, 1) := by decide +kernel
theorem dWriting_addRows_48 : decode mWriting_addRows.2.1 48 = .ok (.if_icmp .ge 25, 3) := by decide +kernel
theorem dWriting_addRows_51 : decode mWriting_addRows.2.1 51 = .ok (.aload_n 0, 1) := by decide +kernel
theorem dWriting_addRows_52 : decode mWriting_addRows.2.1 52 = .ok (.getfield 14, 3) := by decide +kernel
theorem dWriting_addRows_55 : decode mWriting_addRows.2.1 55 = .ok (.aload_n 0, 1) := by decide +kernel
theorem dWriting_addRows_56 : decode mWriting_addRows.2.1 56 = .ok (.getfield 20, 3) := by decide +kernel
theorem dWriting_addRows_59 : decode mWriting_addRows.2.1 59 = .ok (.iload 4, 2) := by decide +kernel
theorem dWriting_addRows_61 : decode mWriting_addRows.2.1 61 = .ok (.invokevirtual 145, 3) := by decide +kernel
theorem dWriting_addRows_64 : decode mWriting_addRows.2.1 64 = .ok (.invokevirtual 107, 3) := by decide +kernel
theorem dWriting_addRows_67 : decode mWriting_addRows.2.1 67 = .ok (.iinc 4 1, 3) := by decide +kernel
theorem dWriting_addRows_70 : decode mWriting_addRows.2.1 70 = .ok (.goto (-25), 3) := by decide +kernel
theorem dWriting_addRows_73 : decode mWriting_addRows.2.1 73 = .ok (.aload_n 0, 1) := by decide +kernel
theorem dWriting_addRows_74 : decode mWriting_addRows.2.1 74 = .ok (.invokevirtual 77, 3) := by decide +kernel
theorem dWriting_addRows_77 : decode mWriting_addRows.2.1 77 = .ok (.iinc 2 60, 3) := by decide +kernel
theorem dWriting_addRows_80 : decode mWriting_addRows.2.1 80 = .ok (.goto (-70), 3) := by decide +kernel
theorem dWriting_addRows_83 : decode mWriting_addRows.2.1 83 = .ok (.return_, 1) := by decide +kernel
theorem dWriting_addExtras_0 : decode mWriting_addExtras.2.1 0 = .ok (.iconst 0, 1) := by decide +kernel
theorem dWriting_addExtras_1 : decode mWriting_addExtras.2.1 1 = .ok (.istore_n 2, 1) := by decide +kernel
theorem dWriting_addExtras_2 : decode mWriting_addExtras.2.1 2 = .ok (.iload_n 2, 1) := by decide +kernel
theorem dWriting_addExtras_3 : decode mWriting_addExtras.2.1 3 = .ok (.aload_n 1, 1) := by decide +kernel
theorem dWriting_addExtras_4 : decode mWriting_addExtras.2.1 4 = .ok (.getfield 146, 3) := by decide +kernel
theorem dWriting_addExtras_7 : decode mWriting_addExtras.2.1 7 = .ok (.if_icmp .ge 52, 3) := by decide +kernel
theorem dWriting_addExtras_10 : decode mWriting_addExtras.2.1 10 = .ok (.aload_n 0, 1) := by decide +kernel
theorem dWriting_addExtras_11 : decode mWriting_addExtras.2.1 11 = .ok (.aload_n 1, 1) := by decide +kernel
theorem dWriting_addExtras_12 : decode mWriting_addExtras.2.1 12 = .ok (.iload_n 2, 1) := by decide +kernel
theorem dWriting_addExtras_13 : decode mWriting_addExtras.2.1 13 = .ok (.invokevirtual 149, 3) := by decide +kernel
theorem dWriting_addExtras_16 : decode mWriting_addExtras.2.1 16 = .ok (.invokevirtual 74, 3) := by decide +kernel
theorem dWriting_addExtras_19 : decode mWriting_addExtras.2.1 19 = .ok (.iconst 0, 1) := by decide +kernel
theorem dWriting_addExtras_20 : decode mWriting_addExtras.2.1 20 = .ok (.istore_n 3, 1) := by decide +kernel
theorem dWriting_addExtras_21 : decode mWriting_addExtras.2.1 21 = .ok (.iload_n 3, 1) := by decide +kernel
theorem dWriting_addExtras_22 : decode mWriting_addExtras.2.1 22 = .ok (.aload_n 1, 1) := by decide +kernel
theorem dWriting_addExtras_23 : decode mWriting_addExtras.2.1 23 = .ok (.iload_n 2, 1) := by decide +kernel
theorem dWriting_addExtras_24 : decode mWriting_addExtras.2.1 24 = .ok (.invokevirtual 152, 3) := by decide +kernel
theorem dWriting_addExtras_27 : decode mWriting_addExtras.2.1 27 = .ok (.if_icmp .ge 22, 3) := by decide +kernel
theorem dWriting_addExtras_30 : decode mWriting_addExtras.2.1 30 = .ok (.aload_n 0, 1) := by decide +kernel
theorem dWriting_addExtras_31 : decode mWriting_addExtras.2.1 31 = .ok (.getfield 14, 3) := by decide +kernel
theorem dWriting_addExtras_34 : decode mWriting_addExtras.2.1 34 = .ok (.aload_n 1, 1) := by decide +kernel
theorem dWriting_addExtras_35 : decode mWriting_addExtras.2.1 35 = .ok (.iload_n 2, 1) := by decide +kernel
theorem dWriting_addExtras_36 : decode mWriting_addExtras.2.1 36 = .ok (.iload_n 3, 1) := by decide +kernel
theorem dWriting_addExtras_37 : decode mWriting_addExtras.2.1 37 = .ok (.invokevirtual 155, 3) := by decide +kernel
theorem dWriting_addExtras_40 : decode mWriting_addExtras.2.1 40 = .ok (.invokevirtual 107, 3) := by decide +kernel
theorem dWriting_addExtras_43 : decode mWriting_addExtras.2.1 43 = .ok (.iinc 3 1, 3) := by decide +kernel
theorem dWriting_addExtras_46 : decode mWriting_addExtras.2.1 46 = .ok (.goto (-25), 3) := by decide +kernel
theorem dWriting_addExtras_49 : decode mWriting_addExtras.2.1 49 = .ok (.aload_n 0, 1) := by decide +kernel
theorem dWriting_addExtras_50 : decode mWriting_addExtras.2.1 50 = .ok (.invokevirtual 77, 3) := by decide +kernel
theorem dWriting_addExtras_53 : decode mWriting_addExtras.2.1 53 = .ok (.iinc 2 1, 3) := by decide +kernel
theorem dWriting_addExtras_56 : decode mWriting_addExtras.2.1 56 = .ok (.goto (-54), 3) := by decide +kernel
theorem dWriting_addExtras_59 : decode mWriting_addExtras.2.1 59 = .ok (.return_, 1) := by decide +kernel
theorem dPF_init_0 : decode mPF_init.2.1 0 = .ok (.aload_n 0, 1) := by decide +kernel
theorem dPF_init_1 : decode mPF_init.2.1 1 = .ok (.invokespecial 1, 3) := by decide +kernel
theorem dPF_init_4 : decode mPF_init.2.1 4 = .ok (.aload_n 0, 1) := by decide +kernel
theorem dPF_init_5 : decode mPF_init.2.1 5 = .ok (.new 7, 3) := by decide +kernel
theorem dPF_init_8 : decode mPF_init.2.1 8 = .ok (.dup, 1) := by decide +kernel
theorem dPF_init_9 : decode mPF_init.2.1 9 = .ok (.invokespecial 9, 3) := by decide +kernel
theorem dPF_init_12 : decode mPF_init.2.1 12 = .ok (.putfield 10, 3) := by decide +kernel
theorem dPF_init_15 : decode mPF_init.2.1 15 = .ok (.aload_n 0, 1) := by decide +kernel
theorem dPF_init_16 : decode mPF_init.2.1 16 = .ok (.new 16, 3) := by decide +kernel
theorem dPF_init_19 : decode mPF_init.2.1 19 = .ok (.dup, 1) := by decide +kernel
theorem dPF_init_20 : decode mPF_init.2.1 20 = .ok (.invokespecial 18, 3) := by decide +kernel
theorem dPF_init_23 : decode mPF_init.2.1 23 = .ok (.putfield 19, 3) := by decide +kernel
theorem dPF_init_26 : decode mPF_init.2.1 26 = .ok (.aload_n 0, 1) := by decide +kernel
theorem dPF_init_27 : decode mPF_init.2.1 27 = .ok (.new 23, 3) := by decide +kernel
theorem dPF_init_30 : decode mPF_init.2.1 30 = .ok (.dup, 1) := by decide +kernel
theorem dPF_init_31 : decode mPF_init.2.1 31 = .ok (.invokespecial 25, 3) := by decide +kernel
theorem dPF_init_34 : decode mPF_init.2.1 34 = .ok (.putfield 26, 3) := by decide +kernel
theorem dPF_init_37 : decode mPF_init.2.1 37 = .ok (.return_, 1) := by decide +kernel
theorem dPF_head_0 : decode mPF_head.2.1 0 = .ok (.iload_n 1, 1) := by decide +kernel
theorem dPF_head_1 : decode mPF_head.2.1 1 = .ok (.iload_n 2, 1) := by decide +kernel
theorem dPF_head_2 : decode mPF_head.2.1 2 = .ok (.iload_n 3, 1) := by decide +kernel
theorem dPF_head_3 : decode mPF_head.2.1 3 = .ok (.iload 4, 2) := by decide +kernel
theorem dPF_head_5 : decode mPF_head.2.1 5 = .ok (.invokestatic 30, 3) := by decide +kernel
theorem dPF_head_8 : decode mPF_head.2.1 8 = .ok (.ifCond .ne 13, 3) := by decide +kernel
theorem dPF_head_11 : decode mPF_head.2.1 11 = .ok (.new 36, 3) := by decide +kernel
theorem dPF_head_14 : decode mPF_head.2.1 14 = .ok (.dup, 1) := by decide +kernel
theorem dPF_head_15 : decode mPF_head.2.1 15 = .ok (.ldc 38, 2) := by decide +kernel
theorem dPF_head_17 : decode mPF_head.2.1 17 = .ok (.invokespecial 40, 3) := by decide +kernel
theorem dPF_head_20 : decode mPF_head.2.1 20 = .ok (.athrow, 1) := by decide +kernel
theorem dPF_head_21 : decode mPF_head.2.1 21 = .ok (.aload_n 0, 1) := by decide +kernel
theorem dPF_head_22 : decode mPF_head.2.1 22 = .ok (.getfield 10, 3) := by decide +kernel
theorem dPF_head_25 : decode mPF_head.2.1 25 = .ok (.iload_n 1, 1) := by decide +kernel
theorem dPF_head_26 : decode mPF_head.2.1 26 = .ok (.iload_n 2, 1) := by decide +kernel
theorem dPF_head_27 : decode mPF_head.2.1 27 = .ok (.iload_n 3, 1) := by decide +kernel
theorem dPF_head_28 : decode mPF_head.2.1 28 = .ok (.iload 4, 2) := by decide +kernel
theorem dPF_head_30 : decode mPF_head.2.1 30 = .ok (.invokevirtual 43, 3) := by decide +kernel
theorem dPF_head_33 : decode mPF_head.2.1 33 = .ok (.return_, 1) := by decide +kernel
theorem dPF_colour_0 : decode mPF_colour.2.1 0 = .ok (.aload_n 0, 1) := by decide +kernel
theorem dPF_colour_1 : decode mPF_colour.2.1 1 = .ok (.getfield 10, 3) := by decide +kernel
theorem dPF_colour_4 : decode mPF_colour.2.1 4 = .ok (.getfield 47, 3) := by decide +kernel
theorem dPF_colour_7 : decode mPF_colour.2.1 7 = .ok (.ifCond .eq 14, 3) := by decide +kernel
theorem dPF_colour_10 : decode mPF_colour.2.1 10 = .ok (.aload_n 0, 1) := by decide +kernel
theorem dPF_colour_11 : decode mPF_colour.2.1 11 = .ok (.getfield 10, 3) := by decide +kernel
theorem dPF_colour_14 : decode mPF_colour.2.1 14 = .ok (.getfield 51, 3) := by decide +kernel
theorem dPF_colour_17 : decode mPF_colour.2.1 17 = .ok (.iconst 3, 1) := by decide +kernel
theorem dPF_colour_18 : decode mPF_colour.2.1 18 = .ok (.if_icmp .eq 13, 3) := by decide +kernel
theorem dPF_colour_21 : decode mPF_colour.2.1 21 = .ok (.new 55, 3) := by decide +kernel
theorem dPF_colour_24 : decode mPF_colour.2.1 24 = .ok (.dup, 1) := by decide +kernel
theorem dPF_colour_25 : decode mPF_colour.2.1 25 = .ok (.ldc 57, 2) := by decide +kernel
theorem dPF_colour_27 : decode mPF_colour.2.1 27 = .ok (.invokespecial 59, 3) := by decide +kernel
theorem dPF_colour_30 : decode mPF_colour.2.1 30 = .ok (.athrow, 1) := by decide +kernel
theorem dPF_colour_31 : decode mPF_colour.2.1 31 = .ok (.iload_n 1, 1) := by decide +kernel
theorem dPF_colour_32 : decode mPF_colour.2.1 32 = .ok (.invokestatic 60, 3) := by decide +kernel
theorem dPF_colour_35 : decode mPF_colour.2.1 35 = .ok (.ifCond .eq 25, 3) := by decide +kernel
theorem dPF_colour_38 : decode mPF_colour.2.1 38 = .ok (.iload_n 2, 1) := by decide +kernel
theorem dPF_colour_39 : decode mPF_colour.2.1 39 = .ok (.invokestatic 60, 3) := by decide +kernel
theorem dPF_colour_42 : decode mPF_colour.2.1 42 = .ok (.ifCond .eq 18, 3) := by decide +kernel
theorem dPF_colour_45 : decode mPF_colour.2.1 45 = .ok (.iload_n 3, 1) := by decide +kernel
theorem dPF_colour_46 : decode mPF_colour.2.1 46 = .ok (.invokestatic 60, 3) := by decide +kernel
theorem dPF_colour_49 : decode mPF_colour.2.1 49 = .ok (.ifCond .eq 11, 3) := by decide +kernel
theorem dPF_colour_52 : decode mPF_colour.2.1 52 = .ok (.iload 4, 2) := by decide +kernel
theorem dPF_colour_54 : decode mPF_colour.2.1 54 = .ok (.invokestatic 60, 3) := by decide +kernel
theorem dPF_colour_57 : decode mPF_colour.2.1 57 = .ok (.ifCond .ne 13, 3) := by decide +kernel
theorem dPF_colour_60 : decode mPF_colour.2.1 60 = .ok (.new 36, 3) := by decide +kernel
theorem dPF_colour_63 : decode mPF_colour.2.1 63 = .ok (.dup, 1) := by decide +kernel
theorem dPF_colour_64 : decode mPF_colour.2.1 64 = .ok (.ldc 64, 2) := by decide +kernel
theorem dPF_colour_66 : decode mPF_colour.2.1 66 = .ok (.invokespecial 40, 3) := by decide +kernel
theorem dPF_colour_69 : decode mPF_colour.2.1 69 = .ok (.athrow, 1) := by decide +kernel
theorem dPF_colour_70 : decode mPF_colour.2.1 70 = .ok (.aload_n 0, 1) := by decide +kernel
theorem dPF_colour_71 : decode mPF_colour.2.1 71 = .ok (.getfield 10, 3) := by decide +kernel
theorem dPF_colour_74 : decode mPF_colour.2.1 74 = .ok (.getfield 66, 3) := by decide +kernel
theorem dPF_colour_77 : decode mPF_colour.2.1 77 = .ok (.getfield 70, 3) := by decide +kernel
theorem dPF_colour_80 : decode mPF_colour.2.1 80 = .ok (.aload_n 0, 1) := by decide +kernel
theorem dPF_colour_81 : decode mPF_colour.2.1 81 = .ok (.getfield 10, 3) := by decide +kernel
theorem dPF_colour_84 : decode mPF_colour.2.1 84 = .ok (.getfield 75, 3) := by decide +kernel
theorem dPF_colour_87 : decode mPF_colour.2.1 87 = .ok (.invokestatic 78, 3) := by decide +kernel
theorem dPF_colour_90 : decode mPF_colour.2.1 90 = .ok (.if_icmp .lt 13, 3) := by decide +kernel
theorem dPF_colour_93 : decode mPF_colour.2.1 93 = .ok (.new 82, 3) := by decide +kernel
theorem dPF_colour_96 : decode mPF_colour.2.1 96 = .ok (.dup, 1) := by decide +kernel
theorem dPF_colour_97 : decode mPF_colour.2.1 97 = .ok (.ldc 84, 2) := by decide +kernel
theorem dPF_colour_99 : decode mPF_colour.2.1 99 = .ok (.invokespecial 86, 3) := by decide +kernel
theorem dPF_colour_102 : decode mPF_colour.2.1 102 = .ok (.athrow, 1) := by decide +kernel
theorem dPF_colour_103 : decode mPF_colour.2.1 103 = .ok (.aload_n 0, 1) := by decide +kernel
theorem dPF_colour_104 : decode mPF_colour.2.1 104 = .ok (.getfield 10, 3) := by decide +kernel
theorem dPF_colour_107 : decode mPF_colour.2.1 107 = .ok (.getfield 66, 3) := by decide +kernel
theorem dPF_colour_110 : decode mPF_colour.2.1 110 = .ok (.iload_n 1, 1) := by decide +kernel
theorem dPF_colour_111 : decode mPF_colour.2.1 111 = .ok (.iload_n 2, 1) := by decide +kernel
theorem dPF_colour_112 : decode mPF_colour.2.1 112 = .ok (.iload_n 3, 1) := by decide +kernel
theorem dPF_colour_113 : decode mPF_colour.2.1 113 = .ok (.iload 4, 2) := by decide +kernel
theorem dPF_colour_115 : decode mPF_colour.2.1 115 = .ok (.invokevirtual 87, 3) := by decide +kernel
theorem dPF_colour_118 : decode mPF_colour.2.1 118 = .ok (.aload_n 0, 1) := by decide +kernel
theorem dPF_colour_119 : decode mPF_colour.2.1 119 = .ok (.getfield 10, 3) := by decide +kernel
theorem dPF_colour_122 : decode mPF_colour.2.1 122 = .ok (.invokevirtual 90, 3) := by decide +kernel
theorem dPF_colour_125 : decode mPF_colour.2.1 125 = .ok (.aload_n 0, 1) := by decide +kernel
theorem dPF_colour_126 : decode mPF_colour.2.1 126 = .ok (.getfield 10, 3) := by decide +kernel
theorem dPF_colour_129 : decode mPF_colour.2.1 129 = .ok (.getfield 66, 3) := by decide +kernel
theorem dPF_colour_132 : decode mPF_colour.2.1 132 = .ok (.getfield 70, 3) := by decide +kernel
theorem dPF_colour_135 : decode mPF_colour.2.1 135 = .ok (.ireturn, 1) := by decide +kernel
theorem dPF_put_0 : decode mPF_put.2.1 0 = .ok (.aload_n 0, 1) := by decide +kernel
theorem dPF_put_1 : decode mPF_put.2.1 1 = .ok (.invokevirtual 93, 3) := by decide +kernel
theorem dPF_put_4 : decode mPF_put.2.1 4 = .ok (.aload_n 0, 1) := by decide +kernel
theorem dPF_put_5 : decode mPF_put.2.1 5 = .ok (.getfield 10, 3) := by decide +kernel
theorem dPF_put_8 : decode mPF_put.2.1 8 = .ok (.iload_n 1, 1) := by decide +kernel
theorem dPF_put_9 : decode mPF_put.2.1 9 = .ok (.iload_n 2, 1) := by decide +kernel
theorem dPF_put_10 : decode mPF_put.2.1 10 = .ok (.iload_n 3, 1) := by decide +kernel
theorem dPF_put_11 : decode mPF_put.2.1 11 = .ok (.invokevirtual 96, 3) := by decide +kernel
theorem dPF_put_14 : decode mPF_put.2.1 14 = .ok (.ifCond .ne 13, 3) := by decide +kernel
theorem dPF_put_17 : decode mPF_put.2.1 17 = .ok (.new 100, 3) := by decide +kernel
theorem dPF_put_20 : decode mPF_put.2.1 20 = .ok (.dup, 1) := by decide +kernel
theorem dPF_put_21 : decode mPF_put.2.1 21 = .ok (.ldc 102, 2) := by decide +kernel
theorem dPF_put_23 : decode mPF_put.2.1 23 = .ok (.invokespecial 104, 3) := by decide +kernel
theorem dPF_put_26 : decode mPF_put.2.1 26 = .ok (.athrow, 1) := by decide +kernel
theorem dPF_put_27 : decode mPF_put.2.1 27 = .ok (.aload_n 0, 1) := by decide +kernel
theorem dPF_put_28 : decode mPF_put.2.1 28 = .ok (.getfield 10, 3) := by decide +kernel
theorem dPF_put_31 : decode mPF_put.2.1 31 = .ok (.iload 4, 2) := by decide +kernel
theorem dPF_put_33 : decode mPF_put.2.1 33 = .ok (.invokevirtual 105, 3) := by decide +kernel
theorem dPF_put_36 : decode mPF_put.2.1 36 = .ok (.ifCond .ne 13, 3) := by decide +kernel
theorem dPF_put_39 : decode mPF_put.2.1 39 = .ok (.new 36, 3) := by decide +kernel
theorem dPF_put_42 : decode mPF_put.2.1 42 = .ok (.dup, 1) := by decide +kernel
theorem dPF_put_43 : decode mPF_put.2.1 43 = .ok (.ldc 108, 2) := by decide +kernel
theorem dPF_put_45 : decode mPF_put.2.1 45 = .ok (.invokespecial 40, 3) := by decide +kernel
theorem dPF_put_48 : decode mPF_put.2.1 48 = .ok (.athrow, 1) := by decide +kernel
theorem dPF_put_49 : decode mPF_put.2.1 49 = .ok (.aload_n 0, 1) := by decide +kernel
theorem dPF_put_50 : decode mPF_put.2.1 50 = .ok (.getfield 10, 3) := by decide +kernel
theorem dPF_put_53 : decode mPF_put.2.1 53 = .ok (.iload_n 1, 1) := by decide +kernel
theorem dPF_put_54 : decode mPF_put.2.1 54 = .ok (.iload_n 2, 1) := by decide +kernel
theorem dPF_put_55 : decode mPF_put.2.1 55 = .ok (.iload_n 3, 1) := by decide +kernel
theorem dPF_put_56 : decode mPF_put.2.1 56 = .ok (.invokevirtual 110, 3) := by decide +kernel
theorem dPF_put_59 : decode mPF_put.2.1 59 = .ok (.istore 5, 2) := by decide +kernel
theorem dPF_put_61 : decode mPF_put.2.1 61 = .ok (.iload 4, 2) := by decide +kernel
theorem dPF_put_63 : decode mPF_put.2.1 63 = .ok (.iload 5, 2) := by decide +kernel
theorem dPF_put_65 : decode mPF_put.2.1 65 = .ok (.if_icmp .eq 22, 3) := by decide +kernel
theorem dPF_put_68 : decode mPF_put.2.1 68 = .ok (.aload_n 0, 1) := by decide +kernel
theorem dPF_put_69 : decode mPF_put.2.1 69 = .ok (.getfield 10, 3) := by decide +kernel
theorem dPF_put_72 : decode mPF_put.2.1 72 = .ok (.iload_n 1, 1) := by decide +kernel
theorem dPF_put_73 : decode mPF_put.2.1 73 = .ok (.iload_n 2, 1) := by decide +kernel
theorem dPF_put_74 : decode mPF_put.2.1 74 = .ok (.iload_n 3, 1) := by decide +kernel
theorem dPF_put_75 : decode mPF_put.2.1 75 = .ok (.iload 4, 2) := by decide +kernel
theorem dPF_put_77 : decode mPF_put.2.1 77 = .ok (.invokevirtual 114, 3) := by decide +kernel
theorem dPF_put_80 : decode mPF_put.2.1 80 = .ok (.aload_n 0, 1) := by decide +kernel
theorem dPF_put_81 : decode mPF_put.2.1 81 = .ok (.getfield 10, 3) := by decide +kernel
theorem dPF_put_84 : decode mPF_put.2.1 84 = .ok (.invokevirtual 90, 3) := by decide +kernel
theorem dPF_put_87 : decode mPF_put.2.1 87 = .ok (.iload 5, 2) := by decide +kernel
theorem dPF_put_89 : decode mPF_put.2.1 89 = .ok (.ireturn, 1) := by decide +kernel
theorem dPF_tag_0 : decode mPF_tag.2.1 0 = .ok (.aload_n 0, 1) := by decide +kernel
theorem dPF_tag_1 : decode mPF_tag.2.1 1 = .ok (.invokevirtual 93, 3) := by decide +kernel
theorem dPF_tag_4 : decode mPF_tag.2.1 4 = .ok (.iload_n 1, 1) := by decide +kernel
theorem dPF_tag_5 : decode mPF_tag.2.1 5 = .ok (.invokestatic 117, 3) := by decide +kernel
theorem dPF_tag_8 : decode mPF_tag.2.1 8 = .ok (.ifCond .ne 13, 3) := by decide +kernel
theorem dPF_tag_11 : decode mPF_tag.2.1 11 = .ok (.new 36, 3) := by decide +kernel
theorem dPF_tag_14 : decode mPF_tag.2.1 14 = .ok (.dup, 1) := by decide +kernel
theorem dPF_tag_15 : decode mPF_tag.2.1 15 = .ok (.ldc 122, 2) := by decide +kernel
theorem dPF_tag_17 : decode mPF_tag.2.1 17 = .ok (.invokespecial 40, 3) := by decide +kernel
theorem dPF_tag_20 : decode mPF_tag.2.1 20 = .ok (.athrow, 1) := by decide +kernel
theorem dPF_tag_21 : decode mPF_tag.2.1 21 = .ok (.iload_n 2, 1) := by decide +kernel
theorem dPF_tag_22 : decode mPF_tag.2.1 22 = .ok (.iconst (-1), 1) := by decide +kernel
theorem dPF_tag_23 : decode mPF_tag.2.1 23 = .ok (.if_icmp .eq 21, 3) := by decide +kernel
theorem dPF_tag_26 : decode mPF_tag.2.1 26 = .ok (.iload_n 1, 1) := by decide +kernel
theorem dPF_tag_27 : decode mPF_tag.2.1 27 = .ok (.iload_n 2, 1) := by decide +kernel
theorem dPF_tag_28 : decode mPF_tag.2.1 28 = .ok (.invokestatic 124, 3) := by decide +kernel
theorem dPF_tag_31 : decode mPF_tag.2.1 31 = .ok (.ifCond .ne 13, 3) := by decide +kernel
theorem dPF_tag_34 : decode mPF_tag.2.1 34 = .ok (.new 36, 3) := by decide +kernel
theorem dPF_tag_37 : decode mPF_tag.2.1 37 = .ok (.dup, 1) := by decide +kernel
theorem dPF_tag_38 : decode mPF_tag.2.1 38 = .ok (.ldc 127, 2) := by decide +kernel
theorem dPF_tag_40 : decode mPF_tag.2.1 40 = .ok (.invokespecial 40, 3) := by decide +kernel
theorem dPF_tag_43 : decode mPF_tag.2.1 43 = .ok (.athrow, 1) := by decide +kernel
theorem dPF_tag_44 : decode mPF_tag.2.1 44 = .ok (.aload_n 0, 1) := by decide +kernel
theorem dPF_tag_45 : decode mPF_tag.2.1 45 = .ok (.getfield 10, 3) := by decide +kernel
theorem dPF_tag_48 : decode mPF_tag.2.1 48 = .ok (.getfield 129, 3) := by decide +kernel
theorem dPF_tag_51 : decode mPF_tag.2.1 51 = .ok (.iload_n 1, 1) := by decide +kernel
theorem dPF_tag_52 : decode mPF_tag.2.1 52 = .ok (.invokevirtual 133, 3) := by decide +kernel
theorem dPF_tag_55 : decode mPF_tag.2.1 55 = .ok (.istore_n 3, 1) := by decide +kernel
theorem dPF_tag_56 : decode mPF_tag.2.1 56 = .ok (.aload_n 0, 1) := by decide +kernel
theorem dPF_tag_57 : decode mPF_tag.2.1 57 = .ok (.getfield 10, 3) := by decide +kernel
theorem dPF_tag_60 : decode mPF_tag.2.1 60 = .ok (.getfield 129, 3) := by decide +kernel
theorem dPF_tag_63 : decode mPF_tag.2.1 63 = .ok (.iload_n 1, 1) := by decide +kernel
theorem dPF_tag_64 : decode mPF_tag.2.1 64 = .ok (.iload_n 2, 1) := by decide +kernel
theorem dPF_tag_65 : decode mPF_tag.2.1 65 = .ok (.invokevirtual 136, 3) := by decide +kernel
theorem dPF_tag_68 : decode mPF_tag.2.1 68 = .ok (.iload_n 3, 1) := by decide +kernel
theorem dPF_tag_69 : decode mPF_tag.2.1 69 = .ok (.ireturn, 1) := by decide +kernel
theorem dPF_extra_0 : decode mPF_extra.2.1 0 = .ok (.aload_n 0, 1) := by decide +kernel
theorem dPF_extra_1 : decode mPF_extra.2.1 1 = .ok (.invokevirtual 93, 3) := by decide +kernel
theorem dPF_extra_4 : decode mPF_extra.2.1 4 = .ok (.iload_n 1, 1) := by decide +kernel
theorem dPF_extra_5 : decode mPF_extra.2.1 5 = .ok (.invokestatic 140, 3) := by decide +kernel
theorem dPF_extra_8 : decode mPF_extra.2.1 8 = .ok (.ifCond .ne 13, 3) := by decide +kernel
theorem dPF_extra_11 : decode mPF_extra.2.1 11 = .ok (.new 36, 3) := by decide +kernel
theorem dPF_extra_14 : decode mPF_extra.2.1 14 = .ok (.dup, 1) := by decide +kernel
theorem dPF_extra_15 : decode mPF_extra.2.1 15 = .ok (.ldc 145, 2) := by decide +kernel
theorem dPF_extra_17 : decode mPF_extra.2.1 17 = .ok (.invokespecial 40, 3) := by decide +kernel
theorem dPF_extra_20 : decode mPF_extra.2.1 20 = .ok (.athrow, 1) := by decide +kernel
theorem dPF_extra_21 : decode mPF_extra.2.1 21 = .ok (.aload_n 0, 1) := by decide +kernel
theorem dPF_extra_22 : decode mPF_extra.2.1 22 = .ok (.getfield 10, 3) := by decide +kernel
theorem dPF_extra_25 : decode mPF_extra.2.1 25 = .ok (.getfield 147, 3) := by decide +kernel
theorem dPF_extra_28 : decode mPF_extra.2.1 28 = .ok (.invokevirtual 151, 3) := by decide +kernel
theorem dPF_extra_31 : decode mPF_extra.2.1 31 = .ok (.ifCond .eq 13, 3) := by decide +kernel
theorem dPF_extra_34 : decode mPF_extra.2.1 34 = .ok (.new 82, 3) := by decide +kernel
theorem dPF_extra_37 : decode mPF_extra.2.1 37 = .ok (.dup, 1) := by decide +kernel
theorem dPF_extra_38 : decode mPF_extra.2.1 38 = .ok (.ldc 157, 2) := by decide +kernel
theorem dPF_extra_40 : decode mPF_extra.2.1 40 = .ok (.invokespecial 86, 3) := by decide +kernel
theorem dPF_extra_43 : decode mPF_extra.2.1 43 = .ok (.athrow, 1) := by decide +kernel
theorem dPF_extra_44 : decode mPF_extra.2.1 44 = .ok (.aload_n 0, 1) := by decide +kernel
theorem dPF_extra_45 : decode mPF_extra.2.1 45 = .ok (.getfield 10, 3) := by decide +kernel
theorem dPF_extra_48 : decode mPF_extra.2.1 48 = .ok (.getfield 147, 3) := by decide +kernel
theorem dPF_extra_51 : decode mPF_extra.2.1 51 = .ok (.iload_n 1, 1) := by decide +kernel
theorem dPF_extra_52 : decode mPF_extra.2.1 52 = .ok (.invokevirtual 159, 3) := by decide +kernel
theorem dPF_extra_55 : decode mPF_extra.2.1 55 = .ok (.aload_n 0, 1) := by decide +kernel
theorem dPF_extra_56 : decode mPF_extra.2.1 56 = .ok (.getfield 10, 3) := by decide +kernel
theorem dPF_extra_59 : decode mPF_extra.2.1 59 = .ok (.getfield 147, 3) := by decide +kernel
theorem dPF_extra_62 : decode mPF_extra.2.1 62 = .ok (.getfield 162, 3) := by decide +kernel
theorem dPF_extra_65 : decode mPF_extra.2.1 65 = .ok (.ireturn, 1) := by decide +kernel
theorem dPF_byteOf_0 : decode mPF_byteOf.2.1 0 = .ok (.aload_n 0, 1) := by decide +kernel
theorem dPF_byteOf_1 : decode mPF_byteOf.2.1 1 = .ok (.invokevirtual 93, 3) := by decide +kernel
theorem dPF_byteOf_4 : decode mPF_byteOf.2.1 4 = .ok (.aload_n 0, 1) := by decide +kernel
theorem dPF_byteOf_5 : decode mPF_byteOf.2.1 5 = .ok (.getfield 10, 3) := by decide +kernel
theorem dPF_byteOf_8 : decode mPF_byteOf.2.1 8 = .ok (.getfield 147, 3) := by decide +kernel
theorem dPF_byteOf_11 : decode mPF_byteOf.2.1 11 = .ok (.iload_n 1, 1) := by decide +kernel
theorem dPF_byteOf_12 : decode mPF_byteOf.2.1 12 = .ok (.invokevirtual 163, 3) := by decide +kernel
theorem dPF_byteOf_15 : decode mPF_byteOf.2.1 15 = .ok (.ifCond .ne 13, 3) := by decide +kernel
theorem dPF_byteOf_18 : decode mPF_byteOf.2.1 18 = .ok (.new 100, 3) := by decide +kernel
theorem dPF_byteOf_21 : decode mPF_byteOf.2.1 21 = .ok (.dup, 1) := by decide +kernel
theorem dPF_byteOf_22 : decode mPF_byteOf.2.1 22 = .ok (.ldc 165, 2) := by decide +kernel
theorem dPF_byteOf_24 : decode mPF_byteOf.2.1 24 = .ok (.invokespecial 104, 3) := by decide +kernel
theorem dPF_byteOf_27 : decode mPF_byteOf.2.1 27 = .ok (.athrow, 1) := by decide +kernel
theorem dPF_byteOf_28 : decode mPF_byteOf.2.1 28 = .ok (.iload_n 2, 1) := by decide +kernel
theorem dPF_byteOf_29 : decode mPF_byteOf.2.1 29 = .ok (.invokestatic 167, 3) := by decide +kernel
theorem dPF_byteOf_32 : decode mPF_byteOf.2.1 32 = .ok (.aload_n 0, 1) := by decide +kernel
theorem dPF_byteOf_33 : decode mPF_byteOf.2.1 33 = .ok (.getfield 10, 3) := by decide +kernel
theorem dPF_byteOf_36 : decode mPF_byteOf.2.1 36 = .ok (.getfield 147, 3) := by decide +kernel
theorem dPF_byteOf_39 : decode mPF_byteOf.2.1 39 = .ok (.iload_n 1, 1) := by decide +kernel
theorem dPF_byteOf_40 : decode mPF_byteOf.2.1 40 = .ok (.invokevirtual 170, 3) := by decide +kernel
theorem dPF_byteOf_43 : decode mPF_byteOf.2.1 43 = .ok (.bipush 40, 2) := by decide +kernel
theorem dPF_byteOf_45 : decode mPF_byteOf.2.1 45 = .ok (.if_icmp .lt 13, 3) := by decide +kernel
theorem dPF_byteOf_48 : decode mPF_byteOf.2.1 48 = .ok (.new 82, 3) := by decide +kernel
theorem dPF_byteOf_51 : decode mPF_byteOf.2.1 51 = .ok (.dup, 1) := by decide +kernel
theorem dPF_byteOf_52 : decode mPF_byteOf.2.1 52 = .ok (.ldc 173, 2) := by decide +kernel
theorem dPF_byteOf_54 : decode mPF_byteOf.2.1 54 = .ok (.invokespecial 86, 3) := by decide +kernel
theorem dPF_byteOf_57 : decode mPF_byteOf.2.1 57 = .ok (.athrow, 1) := by decide +kernel
theorem dPF_byteOf_58 : decode mPF_byteOf.2.1 58 = .ok (.aload_n 0, 1) := by decide +kernel
theorem dPF_byteOf_59 : decode mPF_byteOf.2.1 59 = .ok (.getfield 10, 3) := by decide +kernel
theorem dPF_byteOf_62 : decode mPF_byteOf.2.1 62 = .ok (.getfield 147, 3) := by decide +kernel
theorem dPF_byteOf_65 : decode mPF_byteOf.2.1 65 = .ok (.iload_n 1, 1) := by decide +kernel
theorem dPF_byteOf_66 : decode mPF_byteOf.2.1 66 = .ok (.iload_n 2, 1) := by decide +kernel
theorem dPF_byteOf_67 : decode mPF_byteOf.2.1 67 = .ok (.invokevirtual 175, 3) := by decide +kernel
theorem dPF_byteOf_70 : decode mPF_byteOf.2.1 70 = .ok (.aload_n 0, 1) := by decide +kernel
theorem dPF_byteOf_71 : decode mPF_byteOf.2.1 71 = .ok (.getfield 10, 3) := by decide +kernel
theorem dPF_byteOf_74 : decode mPF_byteOf.2.1 74 = .ok (.getfield 147, 3) := by decide +kernel
theorem dPF_byteOf_77 : decode mPF_byteOf.2.1 77 = .ok (.iload_n 1, 1) := by decide +kernel
theorem dPF_byteOf_78 : decode mPF_byteOf.2.1 78 = .ok (.invokevirtual 170, 3) := by decide +kernel
theorem dPF_byteOf_81 : decode mPF_byteOf.2.1 81 = .ok (.ireturn, 1) := by decide +kernel
theorem dPF_reduce_0 : decode mPF_reduce.2.1 0 = .ok (.aload_n 0, 1) := by decide +kernel
theorem dPF_reduce_1 : decode mPF_reduce.2.1 1 = .ok (.invokevirtual 93, 3) := by decide +kernel
theorem dPF_reduce_4 : decode mPF_reduce.2.1 4 = .ok (.aload_n 0, 1) := by decide +kernel
theorem dPF_reduce_5 : decode mPF_reduce.2.1 5 = .ok (.getfield 10, 3) := by decide +kernel
theorem dPF_reduce_8 : decode mPF_reduce.2.1 8 = .ok (.invokestatic 178, 3) := by decide +kernel
theorem dPF_reduce_11 : decode mPF_reduce.2.1 11 = .ok (.bipush 10, 2) := by decide +kernel
theorem dPF_reduce_13 : decode mPF_reduce.2.1 13 = .ok (.aload_n 0, 1) := by decide +kernel
theorem dPF_reduce_14 : decode mPF_reduce.2.1 14 = .ok (.getfield 10, 3) := by decide +kernel
theorem dPF_reduce_17 : decode mPF_reduce.2.1 17 = .ok (.getfield 51, 3) := by decide +kernel
theorem dPF_reduce_20 : decode mPF_reduce.2.1 20 = .ok (.imul, 1) := by decide +kernel
theorem dPF_reduce_21 : decode mPF_reduce.2.1 21 = .ok (.aload_n 0, 1) := by decide +kernel
theorem dPF_reduce_22 : decode mPF_reduce.2.1 22 = .ok (.getfield 10, 3) := by decide +kernel
theorem dPF_reduce_25 : decode mPF_reduce.2.1 25 = .ok (.getfield 75, 3) := by decide +kernel
theorem dPF_reduce_28 : decode mPF_reduce.2.1 28 = .ok (.iadd, 1) := by decide +kernel
theorem dPF_reduce_29 : decode mPF_reduce.2.1 29 = .ok (.ireturn, 1) := by decide +kernel
theorem dPF_write_0 : decode mPF_write.2.1 0 = .ok (.aload_n 0, 1) := by decide +kernel
theorem dPF_write_1 : decode mPF_write.2.1 1 = .ok (.invokevirtual 93, 3) := by decide +kernel
theorem dPF_write_4 : decode mPF_write.2.1 4 = .ok (.aload_n 0, 1) := by decide +kernel
theorem dPF_write_5 : decode mPF_write.2.1 5 = .ok (.getfield 10, 3) := by decide +kernel
theorem dPF_write_8 : decode mPF_write.2.1 8 = .ok (.getfield 51, 3) := by decide +kernel
theorem dPF_write_11 : decode mPF_write.2.1 11 = .ok (.iconst 3, 1) := by decide +kernel
theorem dPF_write_12 : decode mPF_write.2.1 12 = .ok (.if_icmp .ne 26, 3) := by decide +kernel
theorem dPF_write_15 : decode mPF_write.2.1 15 = .ok (.aload_n 0, 1) := by decide +kernel
theorem dPF_write_16 : decode mPF_write.2.1 16 = .ok (.getfield 10, 3) := by decide +kernel
theorem dPF_write_19 : decode mPF_write.2.1 19 = .ok (.getfield 66, 3) := by decide +kernel
theorem dPF_write_22 : decode mPF_write.2.1 22 = .ok (.getfield 70, 3) := by decide +kernel
theorem dPF_write_25 : decode mPF_write.2.1 25 = .ok (.ifCond .ne 13, 3) := by decide +kernel
theorem dPF_write_28 : decode mPF_write.2.1 28 = .ok (.new 55, 3) := by decide +kernel
theorem dPF_write_31 : decode mPF_write.2.1 31 = .ok (.dup, 1) := by decide +kernel
theorem dPF_write_32 : decode mPF_write.2.1 32 = .ok (.ldc 184, 2) := by decide +kernel
theorem dPF_write_34 : decode mPF_write.2.1 34 = .ok (.invokespecial 59, 3) := by decide +kernel
theorem dPF_write_37 : decode mPF_write.2.1 37 = .ok (.athrow, 1) := by decide +kernel
theorem dPF_write_38 : decode mPF_write.2.1 38 = .ok (.aload_n 0, 1) := by decide +kernel
theorem dPF_write_39 : decode mPF_write.2.1 39 = .ok (.getfield 19, 3) := by decide +kernel
theorem dPF_write_42 : decode mPF_write.2.1 42 = .ok (.aload_n 0, 1) := by decide +kernel
theorem dPF_write_43 : decode mPF_write.2.1 43 = .ok (.getfield 10, 3) := by decide +kernel
theorem dPF_write_46 : decode mPF_write.2.1 46 = .ok (.invokevirtual 186, 3) := by decide +kernel
theorem dPF_write_49 : decode mPF_write.2.1 49 = .ok (.aload_n 0, 1) := by decide +kernel
theorem dPF_write_50 : decode mPF_write.2.1 50 = .ok (.getfield 19, 3) := by decide +kernel
theorem dPF_write_53 : decode mPF_write.2.1 53 = .ok (.getfield 189, 3) := by decide +kernel
theorem dPF_write_56 : decode mPF_write.2.1 56 = .ok (.getfield 193, 3) := by decide +kernel
theorem dPF_write_59 : decode mPF_write.2.1 59 = .ok (.ireturn, 1) := by decide +kernel
theorem dPF_byteAt_0 : decode mPF_byteAt.2.1 0 = .ok (.aload_n 0, 1) := by decide +kernel
theorem dPF_byteAt_1 : decode mPF_byteAt.2.1 1 = .ok (.iload_n 1, 1) := by decide +kernel
theorem dPF_byteAt_2 : decode mPF_byteAt.2.1 2 = .ok (.invokevirtual 196, 3) := by decide +kernel
theorem dPF_byteAt_5 : decode mPF_byteAt.2.1 5 = .ok (.aload_n 0, 1) := by decide +kernel
theorem dPF_byteAt_6 : decode mPF_byteAt.2.1 6 = .ok (.getfield 19, 3) := by decide +kernel
theorem dPF_byteAt_9 : decode mPF_byteAt.2.1 9 = .ok (.getfield 189, 3) := by decide +kernel
theorem dPF_byteAt_12 : decode mPF_byteAt.2.1 12 = .ok (.iload_n 1, 1) := by decide +kernel
theorem dPF_byteAt_13 : decode mPF_byteAt.2.1 13 = .ok (.invokevirtual 199, 3) := by decide +kernel
theorem dPF_byteAt_16 : decode mPF_byteAt.2.1 16 = .ok (.ireturn, 1) := by decide +kernel
theorem dPF_feed_0 : decode mPF_feed.2.1 0 = .ok (.iload_n 1, 1) := by decide +kernel
theorem dPF_feed_1 : decode mPF_feed.2.1 1 = .ok (.invokestatic 167, 3) := by decide +kernel
theorem dPF_feed_4 : decode mPF_feed.2.1 4 = .ok (.aload_n 0, 1) := by decide +kernel
theorem dPF_feed_5 : decode mPF_feed.2.1 5 = .ok (.iconst 1, 1) := by decide +kernel
theorem dPF_feed_6 : decode mPF_feed.2.1 6 = .ok (.invokevirtual 200, 3) := by decide +kernel
theorem dPF_feed_9 : decode mPF_feed.2.1 9 = .ok (.aload_n 0, 1) := by decide +kernel
theorem dPF_feed_10 : decode mPF_feed.2.1 10 = .ok (.getfield 26, 3) := by decide +kernel
theorem dPF_feed_13 : decode mPF_feed.2.1 13 = .ok (.getfield 203, 3) := by decide +kernel
theorem dPF_feed_16 : decode mPF_feed.2.1 16 = .ok (.iload_n 1, 1) := by decide +kernel
theorem dPF_feed_17 : decode mPF_feed.2.1 17 = .ok (.invokevirtual 206, 3) := by decide +kernel
theorem dPF_feed_20 : decode mPF_feed.2.1 20 = .ok (.aload_n 0, 1) := by decide +kernel
theorem dPF_feed_21 : decode mPF_feed.2.1 21 = .ok (.getfield 26, 3) := by decide +kernel
theorem dPF_feed_24 : decode mPF_feed.2.1 24 = .ok (.getfield 203, 3) := by decide +kernel
theorem dPF_feed_27 : decode mPF_feed.2.1 27 = .ok (.getfield 193, 3) := by decide +kernel
theorem dPF_feed_30 : decode mPF_feed.2.1 30 = .ok (.ireturn, 1) := by decide +kernel
theorem dPF_pass_0 : decode mPF_pass.2.1 0 = .ok (.aload_n 0, 1) := by decide +kernel
theorem dPF_pass_1 : decode mPF_pass.2.1 1 = .ok (.iload_n 1, 1) := by decide +kernel
theorem dPF_pass_2 : decode mPF_pass.2.1 2 = .ok (.invokevirtual 196, 3) := by decide +kernel
theorem dPF_pass_5 : decode mPF_pass.2.1 5 = .ok (.iload_n 2, 1) := by decide +kernel
theorem dPF_pass_6 : decode mPF_pass.2.1 6 = .ok (.ifCond .ge 13, 3) := by decide +kernel
theorem dPF_pass_9 : decode mPF_pass.2.1 9 = .ok (.new 36, 3) := by decide +kernel
theorem dPF_pass_12 : decode mPF_pass.2.1 12 = .ok (.dup, 1) := by decide +kernel
theorem dPF_pass_13 : decode mPF_pass.2.1 13 = .ok (.ldc 207, 2) := by decide +kernel
theorem dPF_pass_15 : decode mPF_pass.2.1 15 = .ok (.invokespecial 40, 3) := by decide +kernel
theorem dPF_pass_18 : decode mPF_pass.2.1 18 = .ok (.athrow, 1) := by decide +kernel
theorem dPF_pass_19 : decode mPF_pass.2.1 19 = .ok (.iload_n 2, 1) := by decide +kernel
theorem dPF_pass_20 : decode mPF_pass.2.1 20 = .ok (.aload_n 0, 1) := by decide +kernel
theorem dPF_pass_21 : decode mPF_pass.2.1 21 = .ok (.getfield 19, 3) := by decide +kernel
theorem dPF_pass_24 : decode mPF_pass.2.1 24 = .ok (.getfield 189, 3) := by decide +kernel
theorem dPF_pass_27 : decode mPF_pass.2.1 27 = .ok (.getfield 193, 3) := by decide +kernel
theorem dPF_pass_30 : decode mPF_pass.2.1 30 = .ok (.iload_n 1, 1) := by decide +kernel
theorem dPF_pass_31 : decode mPF_pass.2.1 31 = .ok (.isub, 1) := by decide +kernel
theorem dPF_pass_32 : decode mPF_pass.2.1 32 = .ok (.invokestatic 209, 3) := by decide +kernel
theorem dPF_pass_35 : decode mPF_pass.2.1 35 = .ok (.istore_n 3, 1) := by decide +kernel
theorem dPF_pass_36 : decode mPF_pass.2.1 36 = .ok (.aload_n 0, 1) := by decide +kernel
theorem dPF_pass_37 : decode mPF_pass.2.1 37 = .ok (.iload_n 3, 1) := by decide +kernel
theorem dPF_pass_38 : decode mPF_pass.2.1 38 = .ok (.invokevirtual 200, 3) := by decide +kernel
theorem dPF_pass_41 : decode mPF_pass.2.1 41 = .ok (.iconst 0, 1) := by decide +kernel
theorem dPF_pass_42 : decode mPF_pass.2.1 42 = .ok (.istore 4, 2) := by decide +kernel
theorem dPF_pass_44 : decode mPF_pass.2.1 44 = .ok (.iload 4, 2) := by decide +kernel
theorem dPF_pass_46 : decode mPF_pass.2.1 46 = .ok (.iload_n 3, 1) := by decide +kernel
theorem dPF_pass_47 : decode mPF_pass.2.1 47 = .ok (.if_icmp .ge 33, 3) := by decide +kernel
theorem dPF_pass_50 : decode mPF_pass.2.1 50 = .ok (.aload_n 0, 1) := by decide +kernel
theorem dPF_pass_51 : decode mPF_pass.2.1 51 = .ok (.getfield 26, 3) := by decide +kernel
theorem dPF_pass_54 : decode mPF_pass.2.1 54 = .ok (.getfield 203, 3) := by decide +kernel
theorem dPF_pass_57 : decode mPF_pass.2.1 57 = .ok (.aload_n 0, 1) := by decide +kernel
theorem dPF_pass_58 : decode mPF_pass.2.1 58 = .ok (.getfield 19, 3) := by decide +kernel
theorem dPF_pass_61 : decode mPF_pass.2.1 61 = .ok (.getfield 189, 3) := by decide +kernel
theorem dPF_pass_64 : decode mPF_pass.2.1 64 = .ok (.iload_n 1, 1) := by decide +kernel
theorem dPF_pass_65 : decode mPF_pass.2.1 65 = .ok (.iload 4, 2) := by decide +kernel
theorem dPF_pass_67 : decode mPF_pass.2.1 67 = .ok (.iadd, 1) := by decide +kernel
theorem dPF_pass_68 : decode mPF_pass.2.1 68 = .ok (.invokevirtual 199, 3) := by decide +kernel
theorem dPF_pass_71 : decode mPF_pass.2.1 71 = .ok (.invokevirtual 206, 3) := by decide +kernel
theorem dPF_pass_74 : decode mPF_pass.2.1 74 = .ok (.iinc 4 1, 3) := by decide +kernel
theorem dPF_pass_77 : decode mPF_pass.2.1 77 = .ok (.goto (-33), 3) := by decide +kernel
theorem dPF_pass_80 : decode mPF_pass.2.1 80 = .ok (.iload_n 3, 1) := by decide +kernel
theorem dPF_pass_81 : decode mPF_pass.2.1 81 = .ok (.ireturn, 1) := by decide +kernel
theorem dPF_alter_0 : decode mPF_alter.2.1 0 = .ok (.aload_n 0, 1) := by decide +kernel
theorem dPF_alter_1 : decode mPF_alter.2.1 1 = .ok (.getfield 26, 3) := by decide +kernel
theorem dPF_alter_4 : decode mPF_alter.2.1 4 = .ok (.getfield 203, 3) := by decide +kernel
theorem dPF_alter_7 : decode mPF_alter.2.1 7 = .ok (.iload_n 1, 1) := by decide +kernel
theorem dPF_alter_8 : decode mPF_alter.2.1 8 = .ok (.invokevirtual 215, 3) := by decide +kernel
theorem dPF_alter_11 : decode mPF_alter.2.1 11 = .ok (.ifCond .ne 13, 3) := by decide +kernel
theorem dPF_alter_14 : decode mPF_alter.2.1 14 = .ok (.new 100, 3) := by decide +kernel
theorem dPF_alter_17 : decode mPF_alter.2.1 17 = .ok (.dup, 1) := by decide +kernel
theorem dPF_alter_18 : decode mPF_alter.2.1 18 = .ok (.ldc 216, 2) := by decide +kernel
theorem dPF_alter_20 : decode mPF_alter.2.1 20 = .ok (.invokespecial 104, 3) := by decide +kernel
theorem dPF_alter_23 : decode mPF_alter.2.1 23 = .ok (.athrow, 1) := by decide +kernel
theorem dPF_alter_24 : decode mPF_alter.2.1 24 = .ok (.iload_n 2, 1) := by decide +kernel
theorem dPF_alter_25 : decode mPF_alter.2.1 25 = .ok (.invokestatic 167, 3) := by decide +kernel
theorem dPF_alter_28 : decode mPF_alter.2.1 28 = .ok (.aload_n 0, 1) := by decide +kernel
theorem dPF_alter_29 : decode mPF_alter.2.1 29 = .ok (.getfield 26, 3) := by decide +kernel
theorem dPF_alter_32 : decode mPF_alter.2.1 32 = .ok (.getfield 203, 3) := by decide +kernel
theorem dPF_alter_35 : decode mPF_alter.2.1 35 = .ok (.iload_n 1, 1) := by decide +kernel
theorem dPF_alter_36 : decode mPF_alter.2.1 36 = .ok (.invokevirtual 199, 3) := by decide +kernel
theorem dPF_alter_39 : decode mPF_alter.2.1 39 = .ok (.istore 4, 2) := by decide +kernel
theorem dPF_alter_41 : decode mPF_alter.2.1 41 = .ok (.aload_n 0, 1) := by decide +kernel
theorem dPF_alter_42 : decode mPF_alter.2.1 42 = .ok (.getfield 26, 3) := by decide +kernel
theorem dPF_alter_45 : decode mPF_alter.2.1 45 = .ok (.getfield 203, 3) := by decide +kernel
theorem dPF_alter_48 : decode mPF_alter.2.1 48 = .ok (.iload_n 1, 1) := by decide +kernel
theorem dPF_alter_49 : decode mPF_alter.2.1 49 = .ok (.iload_n 2, 1) := by decide +kernel
theorem dPF_alter_50 : decode mPF_alter.2.1 50 = .ok (.invokevirtual 218, 3) := by decide +kernel
theorem dPF_alter_53 : decode mPF_alter.2.1 53 = .ok (.iload_n 3, 1) := by decide +kernel
theorem dPF_alter_54 : decode mPF_alter.2.1 54 = .ok (.ifCond .eq 14, 3) := by decide +kernel
theorem dPF_alter_57 : decode mPF_alter.2.1 57 = .ok (.aload_n 0, 1) := by decide +kernel
theorem dPF_alter_58 : decode mPF_alter.2.1 58 = .ok (.getfield 26, 3) := by decide +kernel
theorem dPF_alter_61 : decode mPF_alter.2.1 61 = .ok (.getfield 203, 3) := by decide +kernel
theorem dPF_alter_64 : decode mPF_alter.2.1 64 = .ok (.iload_n 1, 1) := by decide +kernel
theorem dPF_alter_65 : decode mPF_alter.2.1 65 = .ok (.invokevirtual 219, 3) := by decide +kernel
theorem dPF_alter_68 : decode mPF_alter.2.1 68 = .ok (.iload 4, 2) := by decide +kernel
theorem dPF_alter_70 : decode mPF_alter.2.1 70 = .ok (.ireturn, 1) := by decide +kernel
theorem dPF_read_0 : decode mPF_read.2.1 0 = .ok (.aload_n 0, 1) := by decide +kernel
theorem dPF_read_1 : decode mPF_read.2.1 1 = .ok (.getfield 26, 3) := by decide +kernel
theorem dPF_read_4 : decode mPF_read.2.1 4 = .ok (.invokevirtual 222, 3) := by decide +kernel
theorem dPF_read_7 : decode mPF_read.2.1 7 = .ok (.aload_n 0, 1) := by decide +kernel
theorem dPF_read_8 : decode mPF_read.2.1 8 = .ok (.getfield 26, 3) := by decide +kernel
theorem dPF_read_11 : decode mPF_read.2.1 11 = .ok (.getfield 224, 3) := by decide +kernel
theorem dPF_read_14 : decode mPF_read.2.1 14 = .ok (.ifCond .eq 13, 3) := by decide +kernel
theorem dPF_read_17 : decode mPF_read.2.1 17 = .ok (.aload_n 0, 1) := by decide +kernel
theorem dPF_read_18 : decode mPF_read.2.1 18 = .ok (.getfield 26, 3) := by decide +kernel
theorem dPF_read_21 : decode mPF_read.2.1 21 = .ok (.getfield 227, 3) := by decide +kernel
theorem dPF_read_24 : decode mPF_read.2.1 24 = .ok (.goto 12, 3) := by decide +kernel
theorem dPF_read_27 : decode mPF_read.2.1 27 = .ok (.iconst (-1), 1) := by decide +kernel
theorem dPF_read_28 : decode mPF_read.2.1 28 = .ok (.aload_n 0, 1) := by decide +kernel
theorem dPF_read_29 : decode mPF_read.2.1 29 = .ok (.getfield 26, 3) := by decide +kernel
theorem dPF_read_32 : decode mPF_read.2.1 32 = .ok (.getfield 230, 3) := by decide +kernel
theorem dPF_read_35 : decode mPF_read.2.1 35 = .ok (.isub, 1) := by decide +kernel
theorem dPF_read_36 : decode mPF_read.2.1 36 = .ok (.ireturn, 1) := by decide +kernel
theorem dPF_at_0 : decode mPF_at.2.1 0 = .ok (.aload_n 0, 1) := by decide +kernel
theorem dPF_at_1 : decode mPF_at.2.1 1 = .ok (.invokevirtual 233, 3) := by decide +kernel
theorem dPF_at_4 : decode mPF_at.2.1 4 = .ok (.aload_n 0, 1) := by decide +kernel
theorem dPF_at_5 : decode mPF_at.2.1 5 = .ok (.getfield 26, 3) := by decide +kernel
theorem dPF_at_8 : decode mPF_at.2.1 8 = .ok (.getfield 236, 3) := by decide +kernel
theorem dPF_at_11 : decode mPF_at.2.1 11 = .ok (.iload_n 1, 1) := by decide +kernel
theorem dPF_at_12 : decode mPF_at.2.1 12 = .ok (.iload_n 2, 1) := by decide +kernel
theorem dPF_at_13 : decode mPF_at.2.1 13 = .ok (.iload_n 3, 1) := by decide +kernel
theorem dPF_at_14 : decode mPF_at.2.1 14 = .ok (.invokevirtual 96, 3) := by decide +kernel
theorem dPF_at_17 : decode mPF_at.2.1 17 = .ok (.ifCond .ne 13, 3) := by decide +kernel
theorem dPF_at_20 : decode mPF_at.2.1 20 = .ok (.new 100, 3) := by decide +kernel
theorem dPF_at_23 : decode mPF_at.2.1 23 = .ok (.dup, 1) := by decide +kernel
theorem dPF_at_24 : decode mPF_at.2.1 24 = .ok (.ldc 237, 2) := by decide +kernel
theorem dPF_at_26 : decode mPF_at.2.1 26 = .ok (.invokespecial 104, 3) := by decide +kernel
theorem dPF_at_29 : decode mPF_at.2.1 29 = .ok (.athrow, 1) := by decide +kernel
theorem dPF_at_30 : decode mPF_at.2.1 30 = .ok (.aload_n 0, 1) := by decide +kernel
theorem dPF_at_31 : decode mPF_at.2.1 31 = .ok (.getfield 26, 3) := by decide +kernel
theorem dPF_at_34 : decode mPF_at.2.1 34 = .ok (.getfield 236, 3) := by decide +kernel
theorem dPF_at_37 : decode mPF_at.2.1 37 = .ok (.iload_n 1, 1) := by decide +kernel
theorem dPF_at_38 : decode mPF_at.2.1 38 = .ok (.iload_n 2, 1) := by decide +kernel
theorem dPF_at_39 : decode mPF_at.2.1 39 = .ok (.iload_n 3, 1) := by decide +kernel
theorem dPF_at_40 : decode mPF_at.2.1 40 = .ok (.invokevirtual 110, 3) := by decide +kernel
theorem dPF_at_43 : decode mPF_at.2.1 43 = .ok (.ireturn, 1) := by decide +kernel
theorem dPF_found_0 : decode mPF_found.2.1 0 = .ok (.aload_n 0, 1) := by decide +kernel
theorem dPF_found_1 : decode mPF_found.2.1 1 = .ok (.invokevirtual 233, 3) := by decide +kernel
theorem dPF_found_4 : decode mPF_found.2.1 4 = .ok (.iload_n 1, 1) := by decide +kernel
theorem dPF_found_5 : decode mPF_found.2.1 5 = .ok (.tableswitch 180 0 9 #[55, 66, 77, 88, 99, 113, 128, 143, 158, 172], 55) := by decide +kernel
theorem dPF_found_60 : decode mPF_found.2.1 60 = .ok (.aload_n 0, 1) := by decide +kernel
theorem dPF_found_61 : decode mPF_found.2.1 61 = .ok (.getfield 26, 3) := by decide +kernel
theorem dPF_found_64 : decode mPF_found.2.1 64 = .ok (.getfield 236, 3) := by decide +kernel
theorem dPF_found_67 : decode mPF_found.2.1 67 = .ok (.getfield 239, 3) := by decide +kernel
theorem dPF_found_70 : decode mPF_found.2.1 70 = .ok (.ireturn, 1) := by decide +kernel
theorem dPF_found_71 : decode mPF_found.2.1 71 = .ok (.aload_n 0, 1) := by decide +kernel
theorem dPF_found_72 : decode mPF_found.2.1 72 = .ok (.getfield 26, 3) := by decide +kernel
theorem dPF_found_75 : decode mPF_found.2.1 75 = .ok (.getfield 236, 3) := by decide +kernel
theorem dPF_found_78 : decode mPF_found.2.1 78 = .ok (.getfield 242, 3) := by decide +kernel
theorem dPF_found_81 : decode mPF_found.2.1 81 = .ok (.ireturn, 1) := by decide +kernel
theorem dPF_found_82 : decode mPF_found.2.1 82 = .ok (.aload_n 0, 1) := by decide +kernel
theorem dPF_found_83 : decode mPF_found.2.1 83 = .ok (.getfield 26, 3) := by decide +kernel
theorem dPF_found_86 : decode mPF_found.2.1 86 = .ok (.getfield 236, 3) := by decide +kernel
theorem dPF_found_89 : decode mPF_found.2.1 89 = .ok (.getfield 75, 3) := by decide +kernel
theorem dPF_found_92 : decode mPF_found.2.1 92 = .ok (.ireturn, 1) := by decide +kernel
theorem dPF_found_93 : decode mPF_found.2.1 93 = .ok (.aload_n 0, 1) := by decide +kernel
theorem dPF_found_94 : decode mPF_found.2.1 94 = .ok (.getfield 26, 3) := by decide +kernel
theorem dPF_found_97 : decode mPF_found.2.1 97 = .ok (.getfield 236, 3) := by decide +kernel
theorem dPF_found_100 : decode mPF_found.2.1 100 = .ok (.getfield 51, 3) := by decide +kernel
theorem dPF_found_103 : decode mPF_found.2.1 103 = .ok (.ireturn, 1) := by decide +kernel
theorem dPF_found_104 : decode mPF_found.2.1 104 = .ok (.aload_n 0, 1) := by decide +kernel
theorem dPF_found_105 : decode mPF_found.2.1 105 = .ok (.getfield 26, 3) := by decide +kernel
theorem dPF_found_108 : decode mPF_found.2.1 108 = .ok (.getfield 236, 3) := by decide +kernel
theorem dPF_found_111 : decode mPF_found.2.1 111 = .ok (.getfield 66, 3) := by decide +kernel
theorem dPF_found_114 : decode mPF_found.2.1 114 = .ok (.getfield 70, 3) := by decide +kernel
theorem dPF_found_117 : decode mPF_found.2.1 117 = .ok (.ireturn, 1) := by decide +kernel
theorem dPF_found_118 : decode mPF_found.2.1 118 = .ok (.aload_n 0, 1) := by decide +kernel
theorem dPF_found_119 : decode mPF_found.2.1 119 = .ok (.getfield 26, 3) := by decide +kernel
theorem dPF_found_122 : decode mPF_found.2.1 122 = .ok (.getfield 236, 3) := by decide +kernel
theorem dPF_found_125 : decode mPF_found.2.1 125 = .ok (.getfield 129, 3) := by decide +kernel
theorem dPF_found_128 : decode mPF_found.2.1 128 = .ok (.iconst 0, 1) := by decide +kernel
theorem dPF_found_129 : decode mPF_found.2.1 129 = .ok (.invokevirtual 133, 3) := by decide +kernel
theorem dPF_found_132 : decode mPF_found.2.1 132 = .ok (.ireturn, 1) := by decide +kernel
theorem dPF_found_133 : decode mPF_found.2.1 133 = .ok (.aload_n 0, 1) := by decide +kernel
theorem dPF_found_134 : decode mPF_found.2.1 134 = .ok (.getfield 26, 3) := by decide +kernel
theorem dPF_found_137 : decode mPF_found.2.1 137 = .ok (.getfield 236, 3) := by decide +kernel
theorem dPF_found_140 : decode mPF_found.2.1 140 = .ok (.getfield 129, 3) := by decide +kernel
theorem dPF_found_143 : decode mPF_found.2.1 143 = .ok (.iconst 1, 1) := by decide +kernel
theorem dPF_found_144 : decode mPF_found.2.1 144 = .ok (.invokevirtual 133, 3) := by decide +kernel
theorem dPF_found_147 : decode mPF_found.2.1 147 = .ok (.ireturn, 1) := by decide +kernel
theorem dPF_found_148 : decode mPF_found.2.1 148 = .ok (.aload_n 0, 1) := by decide +kernel
theorem dPF_found_149 : decode mPF_found.2.1 149 = .ok (.getfield 26, 3) := by decide +kernel
theorem dPF_found_152 : decode mPF_found.2.1 152 = .ok (.getfield 236, 3) := by decide +kernel
theorem dPF_found_155 : decode mPF_found.2.1 155 = .ok (.getfield 129, 3) := by decide +kernel
theorem dPF_found_158 : decode mPF_found.2.1 158 = .ok (.iconst 2, 1) := by decide +kernel
theorem dPF_found_159 : decode mPF_found.2.1 159 = .ok (.invokevirtual 133, 3) := by decide +kernel
theorem dPF_found_162 : decode mPF_found.2.1 162 = .ok (.ireturn, 1) := by decide +kernel
theorem dPF_found_163 : decode mPF_found.2.1 163 = .ok (.aload_n 0, 1) := by decide +kernel
theorem dPF_found_164 : decode mPF_found.2.1 164 = .ok (.getfield 26, 3) := by decide +kernel
theorem dPF_found_167 : decode mPF_found.2.1 167 = .ok (.getfield 236, 3) := by decide +kernel
theorem dPF_found_170 : decode mPF_found.2.1 170 = .ok (.getfield 147, 3) := by decide +kernel
theorem dPF_found_173 : decode mPF_found.2.1 173 = .ok (.getfield 162, 3) := by decide +kernel
theorem dPF_found_176 : decode mPF_found.2.1 176 = .ok (.ireturn, 1) := by decide +kernel
theorem dPF_found_177 : decode mPF_found.2.1 177 = .ok (.aload_n 0, 1) := by decide +kernel
theorem dPF_found_178 : decode mPF_found.2.1 178 = .ok (.getfield 26, 3) := by decide +kernel
theorem dPF_found_181 : decode mPF_found.2.1 181 = .ok (.getfield 245, 3) := by decide +kernel
theorem dPF_found_184 : decode mPF_found.2.1 184 = .ok (.ireturn, 1) := by decide +kernel
theorem dPF_found_185 : decode mPF_found.2.1 185 = .ok (.iconst (-1), 1) := by decide +kernel
theorem dPF_found_186 : decode mPF_found.2.1 186 = .ok (.ireturn, 1) := by decide +kernel
theorem dPF_entry_0 : decode mPF_entry.2.1 0 = .ok (.aload_n 0, 1) := by decide +kernel
theorem dPF_entry_1 : decode mPF_entry.2.1 1 = .ok (.invokevirtual 233, 3) := by decide +kernel
theorem dPF_entry_4 : decode mPF_entry.2.1 4 = .ok (.aload_n 0, 1) := by decide +kernel
theorem dPF_entry_5 : decode mPF_entry.2.1 5 = .ok (.getfield 26, 3) := by decide +kernel
theorem dPF_entry_8 : decode mPF_entry.2.1 8 = .ok (.getfield 236, 3) := by decide +kernel
theorem dPF_entry_11 : decode mPF_entry.2.1 11 = .ok (.getfield 66, 3) := by decide +kernel
theorem dPF_entry_14 : decode mPF_entry.2.1 14 = .ok (.iload_n 1, 1) := by decide +kernel
theorem dPF_entry_15 : decode mPF_entry.2.1 15 = .ok (.invokevirtual 248, 3) := by decide +kernel
theorem dPF_entry_18 : decode mPF_entry.2.1 18 = .ok (.ifCond .ne 13, 3) := by decide +kernel
theorem dPF_entry_21 : decode mPF_entry.2.1 21 = .ok (.new 100, 3) := by decide +kernel
theorem dPF_entry_24 : decode mPF_entry.2.1 24 = .ok (.dup, 1) := by decide +kernel
theorem dPF_entry_25 : decode mPF_entry.2.1 25 = .ok (.ldc 249, 2) := by decide +kernel
theorem dPF_entry_27 : decode mPF_entry.2.1 27 = .ok (.invokespecial 104, 3) := by decide +kernel
theorem dPF_entry_30 : decode mPF_entry.2.1 30 = .ok (.athrow, 1) := by decide +kernel
theorem dPF_entry_31 : decode mPF_entry.2.1 31 = .ok (.iload_n 2, 1) := by decide +kernel
theorem dPF_entry_32 : decode mPF_entry.2.1 32 = .ok (.ifCond .lt 8, 3) := by decide +kernel
theorem dPF_entry_35 : decode mPF_entry.2.1 35 = .ok (.iload_n 2, 1) := by decide +kernel
theorem dPF_entry_36 : decode mPF_entry.2.1 36 = .ok (.iconst 4, 1) := by decide +kernel
theorem dPF_entry_37 : decode mPF_entry.2.1 37 = .ok (.if_icmp .lt 13, 3) := by decide +kernel
theorem dPF_entry_40 : decode mPF_entry.2.1 40 = .ok (.new 36, 3) := by decide +kernel
theorem dPF_entry_43 : decode mPF_entry.2.1 43 = .ok (.dup, 1) := by decide +kernel
theorem dPF_entry_44 : decode mPF_entry.2.1 44 = .ok (.ldc 251, 2) := by decide +kernel
theorem dPF_entry_46 : decode mPF_entry.2.1 46 = .ok (.invokespecial 40, 3) := by decide +kernel
theorem dPF_entry_49 : decode mPF_entry.2.1 49 = .ok (.athrow, 1) := by decide +kernel
theorem dPF_entry_50 : decode mPF_entry.2.1 50 = .ok (.aload_n 0, 1) := by decide +kernel
theorem dPF_entry_51 : decode mPF_entry.2.1 51 = .ok (.getfield 26, 3) := by decide +kernel
theorem dPF_entry_54 : decode mPF_entry.2.1 54 = .ok (.getfield 236, 3) := by decide +kernel
theorem dPF_entry_57 : decode mPF_entry.2.1 57 = .ok (.getfield 66, 3) := by decide +kernel
theorem dPF_entry_60 : decode mPF_entry.2.1 60 = .ok (.iload_n 1, 1) := by decide +kernel
theorem dPF_entry_61 : decode mPF_entry.2.1 61 = .ok (.iload_n 2, 1) := by decide +kernel
theorem dPF_entry_62 : decode mPF_entry.2.1 62 = .ok (.invokevirtual 253, 3) := by decide +kernel
theorem dPF_entry_65 : decode mPF_entry.2.1 65 = .ok (.ireturn, 1) := by decide +kernel
theorem dPF_unknown_0 : decode mPF_unknown.2.1 0 = .ok (.aload_n 0, 1) := by decide +kernel
theorem dPF_unknown_1 : decode mPF_unknown.2.1 1 = .ok (.invokevirtual 233, 3) := by decide +kernel
theorem dPF_unknown_4 : decode mPF_unknown.2.1 4 = .ok (.aload_n 0, 1) := by decide +kernel
theorem dPF_unknown_5 : decode mPF_unknown.2.1 5 = .ok (.getfield 26, 3) := by decide +kernel
theorem dPF_unknown_8 : decode mPF_unknown.2.1 8 = .ok (.getfield 236, 3) := by decide +kernel
theorem dPF_unknown_11 : decode mPF_unknown.2.1 11 = .ok (.getfield 147, 3) := by decide +kernel
theorem dPF_unknown_14 : decode mPF_unknown.2.1 14 = .ok (.astore_n 3, 1) := by decide +kernel
theorem dPF_unknown_15 : decode mPF_unknown.2.1 15 = .ok (.aload_n 3, 1) := by decide +kernel
theorem dPF_unknown_16 : decode mPF_unknown.2.1 16 = .ok (.iload_n 1, 1) := by decide +kernel
theorem dPF_unknown_17 : decode mPF_unknown.2.1 17 = .ok (.invokevirtual 163, 3) := by decide +kernel
theorem dPF_unknown_20 : decode mPF_unknown.2.1 20 = .ok (.ifCond .ne 14, 3) := by decide +kernel
theorem dPF_unknown_23 : decode mPF_unknown.2.1 23 = .ok (.new 100, 3) := by decide +kernel
theorem dPF_unknown_26 : decode mPF_unknown.2.1 26 = .ok (.dup, 1) := by decide +kernel
theorem dPF_unknown_27 : decode mPF_unknown.2.1 27 = .ok (.ldc_w 256, 3) := by decide +kernel
theorem dPF_unknown_30 : decode mPF_unknown.2.1 30 = .ok (.invokespecial 104, 3) := by decide +kernel
theorem dPF_unknown_33 : decode mPF_unknown.2.1 33 = .ok (.athrow, 1) := by decide +kernel
theorem dPF_unknown_34 : decode mPF_unknown.2.1 34 = .ok (.iload_n 2, 1) := by decide +kernel
theorem dPF_unknown_35 : decode mPF_unknown.2.1 35 = .ok (.iconst (-1), 1) := by decide +kernel
theorem dPF_unknown_36 : decode mPF_unknown.2.1 36 = .ok (.if_icmp .lt 12, 3) := by decide +kernel
theorem dPF_unknown_39 : decode mPF_unknown.2.1 39 = .ok (.iload_n 2, 1) := by decide +kernel
theorem dPF_unknown_40 : decode mPF_unknown.2.1 40 = .ok (.aload_n 3, 1) := by decide +kernel
theorem dPF_unknown_41 : decode mPF_unknown.2.1 41 = .ok (.iload_n 1, 1) := by decide +kernel
theorem dPF_unknown_42 : decode mPF_unknown.2.1 42 = .ok (.invokevirtual 170, 3) := by decide +kernel
theorem dPF_unknown_45 : decode mPF_unknown.2.1 45 = .ok (.if_icmp .lt 14, 3) := by decide +kernel
theorem dPF_unknown_48 : decode mPF_unknown.2.1 48 = .ok (.new 100, 3) := by decide +kernel
theorem dPF_unknown_51 : decode mPF_unknown.2.1 51 = .ok (.dup, 1) := by decide +kernel
theorem dPF_unknown_52 : decode mPF_unknown.2.1 52 = .ok (.ldc_w 258, 3) := by decide +kernel
theorem dPF_unknown_55 : decode mPF_unknown.2.1 55 = .ok (.invokespecial 104, 3) := by decide +kernel
theorem dPF_unknown_58 : decode mPF_unknown.2.1 58 = .ok (.athrow, 1) := by decide +kernel
theorem dPF_unknown_59 : decode mPF_unknown.2.1 59 = .ok (.iload_n 2, 1) := by decide +kernel
theorem dPF_unknown_60 : decode mPF_unknown.2.1 60 = .ok (.iconst (-1), 1) := by decide +kernel
theorem dPF_unknown_61 : decode mPF_unknown.2.1 61 = .ok (.if_icmp .ne 11, 3) := by decide +kernel
theorem dPF_unknown_64 : decode mPF_unknown.2.1 64 = .ok (.aload_n 3, 1) := by decide +kernel
theorem dPF_unknown_65 : decode mPF_unknown.2.1 65 = .ok (.iload_n 1, 1) := by decide +kernel
theorem dPF_unknown_66 : decode mPF_unknown.2.1 66 = .ok (.invokevirtual 260, 3) := by decide +kernel
theorem dPF_unknown_69 : decode mPF_unknown.2.1 69 = .ok (.goto 9, 3) := by decide +kernel
theorem dPF_unknown_72 : decode mPF_unknown.2.1 72 = .ok (.aload_n 3, 1) := by decide +kernel
theorem dPF_unknown_73 : decode mPF_unknown.2.1 73 = .ok (.iload_n 1, 1) := by decide +kernel
theorem dPF_unknown_74 : decode mPF_unknown.2.1 74 = .ok (.iload_n 2, 1) := by decide +kernel
theorem dPF_unknown_75 : decode mPF_unknown.2.1 75 = .ok (.invokevirtual 263, 3) := by decide +kernel
theorem dPF_unknown_78 : decode mPF_unknown.2.1 78 = .ok (.ireturn, 1) := by decide +kernel
theorem dPF_take_0 : decode mPF_take.2.1 0 = .ok (.aload_n 0, 1) := by decide +kernel
theorem dPF_take_1 : decode mPF_take.2.1 1 = .ok (.invokevirtual 233, 3) := by decide +kernel
theorem dPF_take_4 : decode mPF_take.2.1 4 = .ok (.aload_n 0, 1) := by decide +kernel
theorem dPF_take_5 : decode mPF_take.2.1 5 = .ok (.getfield 10, 3) := by decide +kernel
theorem dPF_take_8 : decode mPF_take.2.1 8 = .ok (.aload_n 0, 1) := by decide +kernel
theorem dPF_take_9 : decode mPF_take.2.1 9 = .ok (.getfield 26, 3) := by decide +kernel
theorem dPF_take_12 : decode mPF_take.2.1 12 = .ok (.getfield 236, 3) := by decide +kernel
theorem dPF_take_15 : decode mPF_take.2.1 15 = .ok (.invokevirtual 265, 3) := by decide +kernel
theorem dPF_take_18 : decode mPF_take.2.1 18 = .ok (.return_, 1) := by decide +kernel
theorem dPF_told_0 : decode mPF_told.2.1 0 = .ok (.iload_n 1, 1) := by decide +kernel
theorem dPF_told_1 : decode mPF_told.2.1 1 = .ok (.tableswitch 139 0 6 #[43, 51, 73, 95, 106, 117, 128], 43) := by decide +kernel
theorem dPF_told_44 : decode mPF_told.2.1 44 = .ok (.aload_n 0, 1) := by decide +kernel
theorem dPF_told_45 : decode mPF_told.2.1 45 = .ok (.getfield 26, 3) := by decide +kernel
theorem dPF_told_48 : decode mPF_told.2.1 48 = .ok (.getfield 268, 3) := by decide +kernel
theorem dPF_told_51 : decode mPF_told.2.1 51 = .ok (.ireturn, 1) := by decide +kernel
theorem dPF_told_52 : decode mPF_told.2.1 52 = .ok (.aload_n 0, 1) := by decide +kernel
theorem dPF_told_53 : decode mPF_told.2.1 53 = .ok (.getfield 10, 3) := by decide +kernel
theorem dPF_told_56 : decode mPF_told.2.1 56 = .ok (.getfield 47, 3) := by decide +kernel
theorem dPF_told_59 : decode mPF_told.2.1 59 = .ok (.ifCond .eq 13, 3) := by decide +kernel
theorem dPF_told_62 : decode mPF_told.2.1 62 = .ok (.aload_n 0, 1) := by decide +kernel
theorem dPF_told_63 : decode mPF_told.2.1 63 = .ok (.getfield 10, 3) := by decide +kernel
theorem dPF_told_66 : decode mPF_told.2.1 66 = .ok (.getfield 51, 3) := by decide +kernel
theorem dPF_told_69 : decode mPF_told.2.1 69 = .ok (.goto 4, 3) := by decide +kernel
theorem dPF_told_72 : decode mPF_told.2.1 72 = .ok (.iconst (-1), 1) := by decide +kernel
theorem dPF_told_73 : decode mPF_told.2.1 73 = .ok (.ireturn, 1) := by decide +kernel
theorem dPF_told_74 : decode mPF_told.2.1 74 = .ok (.aload_n 0, 1) := by decide +kernel
theorem dPF_told_75 : decode mPF_told.2.1 75 = .ok (.getfield 10, 3) := by decide +kernel
theorem dPF_told_78 : decode mPF_told.2.1 78 = .ok (.getfield 47, 3) := by decide +kernel
theorem dPF_told_81 : decode mPF_told.2.1 81 = .ok (.ifCond .eq 13, 3) := by decide +kernel
theorem dPF_told_84 : decode mPF_told.2.1 84 = .ok (.aload_n 0, 1) := by decide +kernel
theorem dPF_told_85 : decode mPF_told.2.1 85 = .ok (.getfield 10, 3) := by decide +kernel
theorem dPF_told_88 : decode mPF_told.2.1 88 = .ok (.getfield 75, 3) := by decide +kernel
theorem dPF_told_91 : decode mPF_told.2.1 91 = .ok (.goto 4, 3) := by decide +kernel
theorem dPF_told_94 : decode mPF_told.2.1 94 = .ok (.iconst (-1), 1) := by decide +kernel
theorem dPF_told_95 : decode mPF_told.2.1 95 = .ok (.ireturn, 1) := by decide +kernel
theorem dPF_told_96 : decode mPF_told.2.1 96 = .ok (.aload_n 0, 1) := by decide +kernel
theorem dPF_told_97 : decode mPF_told.2.1 97 = .ok (.getfield 10, 3) := by decide +kernel
theorem dPF_told_100 : decode mPF_told.2.1 100 = .ok (.getfield 147, 3) := by decide +kernel
theorem dPF_told_103 : decode mPF_told.2.1 103 = .ok (.getfield 162, 3) := by decide +kernel
theorem dPF_told_106 : decode mPF_told.2.1 106 = .ok (.ireturn, 1) := by decide +kernel
theorem dPF_told_107 : decode mPF_told.2.1 107 = .ok (.aload_n 0, 1) := by decide +kernel
theorem dPF_told_108 : decode mPF_told.2.1 108 = .ok (.getfield 19, 3) := by decide +kernel
theorem dPF_told_111 : decode mPF_told.2.1 111 = .ok (.getfield 189, 3) := by decide +kernel
theorem dPF_told_114 : decode mPF_told.2.1 114 = .ok (.getfield 193, 3) := by decide +kernel
theorem dPF_told_117 : decode mPF_told.2.1 117 = .ok (.ireturn, 1) := by decide +kernel
theorem dPF_told_118 : decode mPF_told.2.1 118 = .ok (.aload_n 0, 1) := by decide +kernel
theorem dPF_told_119 : decode mPF_told.2.1 119 = .ok (.getfield 26, 3) := by decide +kernel
theorem dPF_told_122 : decode mPF_told.2.1 122 = .ok (.getfield 203, 3) := by decide +kernel
theorem dPF_told_125 : decode mPF_told.2.1 125 = .ok (.getfield 193, 3) := by decide +kernel
theorem dPF_told_128 : decode mPF_told.2.1 128 = .ok (.ireturn, 1) := by decide +kernel
theorem dPF_told_129 : decode mPF_told.2.1 129 = .ok (.aload_n 0, 1) := by decide +kernel
theorem dPF_told_130 : decode mPF_told.2.1 130 = .ok (.getfield 10, 3) := by decide +kernel
theorem dPF_told_133 : decode mPF_told.2.1 133 = .ok (.getfield 66, 3) := by decide +kernel
theorem dPF_told_136 : decode mPF_told.2.1 136 = .ok (.getfield 70, 3) := by decide +kernel
theorem dPF_told_139 : decode mPF_told.2.1 139 = .ok (.ireturn, 1) := by decide +kernel
theorem dPF_told_140 : decode mPF_told.2.1 140 = .ok (.iconst (-1), 1) := by decide +kernel
theorem dPF_told_141 : decode mPF_told.2.1 141 = .ok (.ireturn, 1) := by decide +kernel
theorem dPF_drop_0 : decode mPF_drop.2.1 0 = .ok (.aload_n 0, 1) := by decide +kernel
theorem dPF_drop_1 : decode mPF_drop.2.1 1 = .ok (.getfield 26, 3) := by decide +kernel
theorem dPF_drop_4 : decode mPF_drop.2.1 4 = .ok (.getfield 203, 3) := by decide +kernel
theorem dPF_drop_7 : decode mPF_drop.2.1 7 = .ok (.invokevirtual 271, 3) := by decide +kernel
theorem dPF_drop_10 : decode mPF_drop.2.1 10 = .ok (.return_, 1) := by decide +kernel
theorem dPF_needPicture_0 : decode mPF_needPicture.2.1 0 = .ok (.aload_n 0, 1) := by decide +kernel
theorem dPF_needPicture_1 : decode mPF_needPicture.2.1 1 = .ok (.getfield 10, 3) := by decide +kernel
theorem dPF_needPicture_4 : decode mPF_needPicture.2.1 4 = .ok (.getfield 47, 3) := by decide +kernel
theorem dPF_needPicture_7 : decode mPF_needPicture.2.1 7 = .ok (.ifCond .ne 14, 3) := by decide +kernel
theorem dPF_needPicture_10 : decode mPF_needPicture.2.1 10 = .ok (.new 55, 3) := by decide +kernel
theorem dPF_needPicture_13 : decode mPF_needPicture.2.1 13 = .ok (.dup, 1) := by decide +kernel
theorem dPF_needPicture_14 : decode mPF_needPicture.2.1 14 = .ok (.ldc_w 274, 3) := by decide +kernel
theorem dPF_needPicture_17 : decode mPF_needPicture.2.1 17 = .ok (.invokespecial 59, 3) := by decide +kernel
theorem dPF_needPicture_20 : decode mPF_needPicture.2.1 20 = .ok (.athrow, 1) := by decide +kernel
theorem dPF_needPicture_21 : decode mPF_needPicture.2.1 21 = .ok (.return_, 1) := by decide +kernel
theorem dPF_needReading_0 : decode mPF_needReading.2.1 0 = .ok (.aload_n 0, 1) := by decide +kernel
theorem dPF_needReading_1 : decode mPF_needReading.2.1 1 = .ok (.getfield 26, 3) := by decide +kernel
theorem dPF_needReading_4 : decode mPF_needReading.2.1 4 = .ok (.getfield 224, 3) := by decide +kernel
theorem dPF_needReading_7 : decode mPF_needReading.2.1 7 = .ok (.ifCond .ne 14, 3) := by decide +kernel
theorem dPF_needReading_10 : decode mPF_needReading.2.1 10 = .ok (.new 55, 3) := by decide +kernel
theorem dPF_needReading_13 : decode mPF_needReading.2.1 13 = .ok (.dup, 1) := by decide +kernel
theorem dPF_needReading_14 : decode mPF_needReading.2.1 14 = .ok (.ldc_w 276, 3) := by decide +kernel
theorem dPF_needReading_17 : decode mPF_needReading.2.1 17 = .ok (.invokespecial 59, 3) := by decide +kernel
theorem dPF_needReading_20 : decode mPF_needReading.2.1 20 = .ok (.athrow, 1) := by decide +kernel
theorem dPF_needReading_21 : decode mPF_needReading.2.1 21 = .ok (.return_, 1) := by decide +kernel
theorem dPF_needWritten_0 : decode mPF_needWritten.2.1 0 = .ok (.aload_n 0, 1) := by decide +kernel
theorem dPF_needWritten_1 : decode mPF_needWritten.2.1 1 = .ok (.getfield 19, 3) := by decide +kernel
theorem dPF_needWritten_4 : decode mPF_needWritten.2.1 4 = .ok (.getfield 189, 3) := by decide +kernel
theorem dPF_needWritten_7 : decode mPF_needWritten.2.1 7 = .ok (.iload_n 1, 1) := by decide +kernel
theorem dPF_needWritten_8 : decode mPF_needWritten.2.1 8 = .ok (.invokevirtual 215, 3) := by decide +kernel
theorem dPF_needWritten_11 : decode mPF_needWritten.2.1 11 = .ok (.ifCond .ne 14, 3) := by decide +kernel
theorem dPF_needWritten_14 : decode mPF_needWritten.2.1 14 = .ok (.new 100, 3) := by decide +kernel
theorem dPF_needWritten_17 : decode mPF_needWritten.2.1 17 = .ok (.dup, 1) := by decide +kernel
theorem dPF_needWritten_18 : decode mPF_needWritten.2.1 18 = .ok (.ldc_w 278, 3) := by decide +kernel
theorem dPF_needWritten_21 : decode mPF_needWritten.2.1 21 = .ok (.invokespecial 104, 3) := by decide +kernel
theorem dPF_needWritten_24 : decode mPF_needWritten.2.1 24 = .ok (.athrow, 1) := by decide +kernel
theorem dPF_needWritten_25 : decode mPF_needWritten.2.1 25 = .ok (.return_, 1) := by decide +kernel
theorem dPF_needRoom_0 : decode mPF_needRoom.2.1 0 = .ok (.iload_n 1, 1) := by decide +kernel
theorem dPF_needRoom_1 : decode mPF_needRoom.2.1 1 = .ok (.sipush 2000, 3) := by decide +kernel
theorem dPF_needRoom_4 : decode mPF_needRoom.2.1 4 = .ok (.aload_n 0, 1) := by decide +kernel
theorem dPF_needRoom_5 : decode mPF_needRoom.2.1 5 = .ok (.getfield 26, 3) := by decide +kernel
theorem dPF_needRoom_8 : decode mPF_needRoom.2.1 8 = .ok (.getfield 203, 3) := by decide +kernel
theorem dPF_needRoom_11 : decode mPF_needRoom.2.1 11 = .ok (.getfield 193, 3) := by decide +kernel
theorem dPF_needRoom_14 : decode mPF_needRoom.2.1 14 = .ok (.isub, 1) := by decide +kernel
theorem dPF_needRoom_15 : decode mPF_needRoom.2.1 15 = .ok (.if_icmp .le 14, 3) := by decide +kernel
theorem dPF_needRoom_18 : decode mPF_needRoom.2.1 18 = .ok (.new 82, 3) := by decide +kernel
theorem dPF_needRoom_21 : decode mPF_needRoom.2.1 21 = .ok (.dup, 1) := by decide +kernel
theorem dPF_needRoom_22 : decode mPF_needRoom.2.1 22 = .ok (.ldc_w 280, 3) := by decide +kernel
theorem dPF_needRoom_25 : decode mPF_needRoom.2.1 25 = .ok (.invokespecial 86, 3) := by decide +kernel
theorem dPF_needRoom_28 : decode mPF_needRoom.2.1 28 = .ok (.athrow, 1) := by decide +kernel
theorem dPF_needRoom_29 : decode mPF_needRoom.2.1 29 = .ok (.return_, 1) := by decide +kernel
theorem dPF_needByte_0 : decode mPF_needByte.2.1 0 = .ok (.iload_n 0, 1) := by decide +kernel
theorem dPF_needByte_1 : decode mPF_needByte.2.1 1 = .ok (.invokestatic 60, 3) := by decide +kernel
theorem dPF_needByte_4 : decode mPF_needByte.2.1 4 = .ok (.ifCond .ne 14, 3) := by decide +kernel
theorem dPF_needByte_7 : decode mPF_needByte.2.1 7 = .ok (.new 36, 3) := by decide +kernel
theorem dPF_needByte_10 : decode mPF_needByte.2.1 10 = .ok (.dup, 1) := by decide +kernel
theorem dPF_needByte_11 : decode mPF_needByte.2.1 11 = .ok (.ldc_w 282, 3) := by decide +kernel
theorem dPF_needByte_14 : decode mPF_needByte.2.1 14 = .ok (.invokespecial 40, 3) := by decide +kernel
theorem dPF_needByte_17 : decode mPF_needByte.2.1 17 = .ok (.athrow, 1) := by decide +kernel
theorem dPF_needByte_18 : decode mPF_needByte.2.1 18 = .ok (.return_, 1) := by decide +kernel
theorem dPF_isByte_0 : decode mPF_isByte.2.1 0 = .ok (.iload_n 0, 1) := by decide +kernel
theorem dPF_isByte_1 : decode mPF_isByte.2.1 1 = .ok (.ifCond .lt 14, 3) := by decide +kernel
theorem dPF_isByte_4 : decode mPF_isByte.2.1 4 = .ok (.iload_n 0, 1) := by decide +kernel
theorem dPF_isByte_5 : decode mPF_isByte.2.1 5 = .ok (.sipush 255, 3) := by decide +kernel
theorem dPF_isByte_8 : decode mPF_isByte.2.1 8 = .ok (.if_icmp .gt 7, 3) := by decide +kernel
theorem dPF_isByte_11 : decode mPF_isByte.2.1 11 = .ok (.iconst 1, 1) := by decide +kernel
theorem dPF_isByte_12 : decode mPF_isByte.2.1 12 = .ok (.goto 4, 3) := by decide +kernel
theorem dPF_isByte_15 : decode mPF_isByte.2.1 15 = .ok (.iconst 0, 1) := by decide +kernel
theorem dPF_isByte_16 : decode mPF_isByte.2.1 16 = .ok (.ireturn, 1) := by decide +kernel
theorem dShape_mayBe_0 : decode mShape_mayBe.2.1 0 = .ok (.iload_n 0, 1) := by decide +kernel
theorem dShape_mayBe_1 : decode mShape_mayBe.2.1 1 = .ok (.invokestatic 7, 3) := by decide +kernel
theorem dShape_mayBe_4 : decode mShape_mayBe.2.1 4 = .ok (.ifCond .eq 22, 3) := by decide +kernel
theorem dShape_mayBe_7 : decode mShape_mayBe.2.1 7 = .ok (.iload_n 1, 1) := by decide +kernel
theorem dShape_mayBe_8 : decode mShape_mayBe.2.1 8 = .ok (.invokestatic 7, 3) := by decide +kernel
theorem dShape_mayBe_11 : decode mShape_mayBe.2.1 11 = .ok (.ifCond .eq 15, 3) := by decide +kernel
theorem dShape_mayBe_14 : decode mShape_mayBe.2.1 14 = .ok (.iload_n 2, 1) := by decide +kernel
theorem dShape_mayBe_15 : decode mShape_mayBe.2.1 15 = .ok (.iload_n 3, 1) := by decide +kernel
theorem dShape_mayBe_16 : decode mShape_mayBe.2.1 16 = .ok (.invokestatic 13, 3) := by decide +kernel
theorem dShape_mayBe_19 : decode mShape_mayBe.2.1 19 = .ok (.ifCond .eq 7, 3) := by decide +kernel
theorem dShape_mayBe_22 : decode mShape_mayBe.2.1 22 = .ok (.iconst 1, 1) := by decide +kernel
theorem dShape_mayBe_23 : decode mShape_mayBe.2.1 23 = .ok (.goto 4, 3) := by decide +kernel
theorem dShape_mayBe_26 : decode mShape_mayBe.2.1 26 = .ok (.iconst 0, 1) := by decide +kernel
theorem dShape_mayBe_27 : decode mShape_mayBe.2.1 27 = .ok (.ireturn, 1) := by decide +kernel
theorem dShape_channelsOf_0 : decode mShape_channelsOf.2.1 0 = .ok (.iload_n 0, 1) := by decide +kernel
theorem dShape_channelsOf_1 : decode mShape_channelsOf.2.1 1 = .ok (.tableswitch 41 2 6 #[35, 41, 37, 41, 39], 35) := by decide +kernel
theorem dShape_channelsOf_36 : decode mShape_channelsOf.2.1 36 = .ok (.iconst 3, 1) := by decide +kernel
theorem dShape_channelsOf_37 : decode mShape_channelsOf.2.1 37 = .ok (.ireturn, 1) := by decide +kernel
theorem dShape_channelsOf_38 : decode mShape_channelsOf.2.1 38 = .ok (.iconst 2, 1) := by decide +kernel
theorem dShape_channelsOf_39 : decode mShape_channelsOf.2.1 39 = .ok (.ireturn, 1) := by decide +kernel
theorem dShape_channelsOf_40 : decode mShape_channelsOf.2.1 40 = .ok (.iconst 4, 1) := by decide +kernel
theorem dShape_channelsOf_41 : decode mShape_channelsOf.2.1 41 = .ok (.ireturn, 1) := by decide +kernel
theorem dShape_channelsOf_42 : decode mShape_channelsOf.2.1 42 = .ok (.iconst 1, 1) := by decide +kernel
theorem dShape_channelsOf_43 : decode mShape_channelsOf.2.1 43 = .ok (.ireturn, 1) := by decide +kernel
theorem dShape_greatest_0 : decode mShape_greatest.2.1 0 = .ok (.iconst 1, 1) := by decide +kernel
theorem dShape_greatest_1 : decode mShape_greatest.2.1 1 = .ok (.iload_n 0, 1) := by decide +kernel
theorem dShape_greatest_2 : decode mShape_greatest.2.1 2 = .ok (.ishl, 1) := by decide +kernel
theorem dShape_greatest_3 : decode mShape_greatest.2.1 3 = .ok (.iconst 1, 1) := by decide +kernel
theorem dShape_greatest_4 : decode mShape_greatest.2.1 4 = .ok (.isub, 1) := by decide +kernel
theorem dShape_greatest_5 : decode mShape_greatest.2.1 5 = .ok (.ireturn, 1) := by decide +kernel
theorem dShape_sideMayBe_0 : decode mShape_sideMayBe.2.1 0 = .ok (.iload_n 0, 1) := by decide +kernel
theorem dShape_sideMayBe_1 : decode mShape_sideMayBe.2.1 1 = .ok (.iconst 1, 1) := by decide +kernel
theorem dShape_sideMayBe_2 : decode mShape_sideMayBe.2.1 2 = .ok (.if_icmp .lt 13, 3) := by decide +kernel
theorem dShape_sideMayBe_5 : decode mShape_sideMayBe.2.1 5 = .ok (.iload_n 0, 1) := by decide +kernel
theorem dShape_sideMayBe_6 : decode mShape_sideMayBe.2.1 6 = .ok (.bipush 12, 2) := by decide +kernel
theorem dShape_sideMayBe_8 : decode mShape_sideMayBe.2.1 8 = .ok (.if_icmp .gt 7, 3) := by decide +kernel
theorem dShape_sideMayBe_11 : decode mShape_sideMayBe.2.1 11 = .ok (.iconst 1, 1) := by decide +kernel
theorem dShape_sideMayBe_12 : decode mShape_sideMayBe.2.1 12 = .ok (.goto 4, 3) := by decide +kernel
theorem dShape_sideMayBe_15 : decode mShape_sideMayBe.2.1 15 = .ok (.iconst 0, 1) := by decide +kernel
theorem dShape_sideMayBe_16 : decode mShape_sideMayBe.2.1 16 = .ok (.ireturn, 1) := by decide +kernel
theorem dShape_bitsMayBe_0 : decode mShape_bitsMayBe.2.1 0 = .ok (.iload_n 1, 1) := by decide +kernel
theorem dShape_bitsMayBe_1 : decode mShape_bitsMayBe.2.1 1 = .ok (.tableswitch 82 0 6 #[43, 82, 70, 43, 70, 82, 70], 43) := by decide +kernel
theorem dShape_bitsMayBe_44 : decode mShape_bitsMayBe.2.1 44 = .ok (.iload_n 0, 1) := by decide +kernel
theorem dShape_bitsMayBe_45 : decode mShape_bitsMayBe.2.1 45 = .ok (.iconst 1, 1) := by decide +kernel
theorem dShape_bitsMayBe_46 : decode mShape_bitsMayBe.2.1 46 = .ok (.if_icmp .eq 19, 3) := by decide +kernel
theorem dShape_bitsMayBe_49 : decode mShape_bitsMayBe.2.1 49 = .ok (.iload_n 0, 1) := by decide +kernel
theorem dShape_bitsMayBe_50 : decode mShape_bitsMayBe.2.1 50 = .ok (.iconst 2, 1) := by decide +kernel
theorem dShape_bitsMayBe_51 : decode mShape_bitsMayBe.2.1 51 = .ok (.if_icmp .eq 14, 3) := by decide +kernel
theorem dShape_bitsMayBe_54 : decode mShape_bitsMayBe.2.1 54 = .ok (.iload_n 0, 1) := by decide +kernel
theorem dShape_bitsMayBe_55 : decode mShape_bitsMayBe.2.1 55 = .ok (.iconst 4, 1) := by decide +kernel
theorem dShape_bitsMayBe_56 : decode mShape_bitsMayBe.2.1 56 = .ok (.if_icmp .eq 9, 3) := by decide +kernel
theorem dShape_bitsMayBe_59 : decode mShape_bitsMayBe.2.1 59 = .ok (.iload_n 0, 1) := by decide +kernel
theorem dShape_bitsMayBe_60 : decode mShape_bitsMayBe.2.1 60 = .ok (.bipush 8, 2) := by decide +kernel
theorem dShape_bitsMayBe_62 : decode mShape_bitsMayBe.2.1 62 = .ok (.if_icmp .ne 7, 3) := by decide +kernel
theorem dShape_bitsMayBe_65 : decode mShape_bitsMayBe.2.1 65 = .ok (.iconst 1, 1) := by decide +kernel
theorem dShape_bitsMayBe_66 : decode mShape_bitsMayBe.2.1 66 = .ok (.goto 4, 3) := by decide +kernel
theorem dShape_bitsMayBe_69 : decode mShape_bitsMayBe.2.1 69 = .ok (.iconst 0, 1) := by decide +kernel
theorem dShape_bitsMayBe_70 : decode mShape_bitsMayBe.2.1 70 = .ok (.ireturn, 1) := by decide +kernel
theorem dShape_bitsMayBe_71 : decode mShape_bitsMayBe.2.1 71 = .ok (.iload_n 0, 1) := by decide +kernel
theorem dShape_bitsMayBe_72 : decode mShape_bitsMayBe.2.1 72 = .ok (.bipush 8, 2) := by decide +kernel
theorem dShape_bitsMayBe_74 : decode mShape_bitsMayBe.2.1 74 = .ok (.if_icmp .ne 7, 3) := by decide +kernel
theorem dShape_bitsMayBe_77 : decode mShape_bitsMayBe.2.1 77 = .ok (.iconst 1, 1) := by decide +kernel
theorem dShape_bitsMayBe_78 : decode mShape_bitsMayBe.2.1 78 = .ok (.goto 4, 3) := by decide +kernel
theorem dShape_bitsMayBe_81 : decode mShape_bitsMayBe.2.1 81 = .ok (.iconst 0, 1) := by decide +kernel
theorem dShape_bitsMayBe_82 : decode mShape_bitsMayBe.2.1 82 = .ok (.ireturn, 1) := by decide +kernel
theorem dShape_bitsMayBe_83 : decode mShape_bitsMayBe.2.1 83 = .ok (.iconst 0, 1) := by decide +kernel
theorem dShape_bitsMayBe_84 : decode mShape_bitsMayBe.2.1 84 = .ok (.ireturn, 1) := by decide +kernel
theorem dLetters_mayBe_0 : decode mLetters_mayBe.2.1 0 = .ok (.iload_n 0, 1) := by decide +kernel
theorem dLetters_mayBe_1 : decode mLetters_mayBe.2.1 1 = .ok (.iconst 0, 1) := by decide +kernel
theorem dLetters_mayBe_2 : decode mLetters_mayBe.2.1 2 = .ok (.invokestatic 7, 3) := by decide +kernel
theorem dLetters_mayBe_5 : decode mLetters_mayBe.2.1 5 = .ok (.invokestatic 13, 3) := by decide +kernel
theorem dLetters_mayBe_8 : decode mLetters_mayBe.2.1 8 = .ok (.ifCond .eq 40, 3) := by decide +kernel
theorem dLetters_mayBe_11 : decode mLetters_mayBe.2.1 11 = .ok (.iload_n 0, 1) := by decide +kernel
theorem dLetters_mayBe_12 : decode mLetters_mayBe.2.1 12 = .ok (.iconst 1, 1) := by decide +kernel
theorem dLetters_mayBe_13 : decode mLetters_mayBe.2.1 13 = .ok (.invokestatic 7, 3) := by decide +kernel
theorem dLetters_mayBe_16 : decode mLetters_mayBe.2.1 16 = .ok (.invokestatic 13, 3) := by decide +kernel
theorem dLetters_mayBe_19 : decode mLetters_mayBe.2.1 19 = .ok (.ifCond .eq 29, 3) := by decide +kernel
theorem dLetters_mayBe_22 : decode mLetters_mayBe.2.1 22 = .ok (.iload_n 0, 1) := by decide +kernel
theorem dLetters_mayBe_23 : decode mLetters_mayBe.2.1 23 = .ok (.iconst 2, 1) := by decide +kernel
theorem dLetters_mayBe_24 : decode mLetters_mayBe.2.1 24 = .ok (.invokestatic 7, 3) := by decide +kernel
theorem dLetters_mayBe_27 : decode mLetters_mayBe.2.1 27 = .ok (.invokestatic 17, 3) := by decide +kernel
theorem dLetters_mayBe_30 : decode mLetters_mayBe.2.1 30 = .ok (.ifCond .eq 18, 3) := by decide +kernel
theorem dLetters_mayBe_33 : decode mLetters_mayBe.2.1 33 = .ok (.iload_n 0, 1) := by decide +kernel
theorem dLetters_mayBe_34 : decode mLetters_mayBe.2.1 34 = .ok (.iconst 3, 1) := by decide +kernel
theorem dLetters_mayBe_35 : decode mLetters_mayBe.2.1 35 = .ok (.invokestatic 7, 3) := by decide +kernel
theorem dLetters_mayBe_38 : decode mLetters_mayBe.2.1 38 = .ok (.invokestatic 13, 3) := by decide +kernel
theorem dLetters_mayBe_41 : decode mLetters_mayBe.2.1 41 = .ok (.ifCond .eq 7, 3) := by decide +kernel
theorem dLetters_mayBe_44 : decode mLetters_mayBe.2.1 44 = .ok (.iconst 1, 1) := by decide +kernel
theorem dLetters_mayBe_45 : decode mLetters_mayBe.2.1 45 = .ok (.goto 4, 3) := by decide +kernel
theorem dLetters_mayBe_48 : decode mLetters_mayBe.2.1 48 = .ok (.iconst 0, 1) := by decide +kernel
theorem dLetters_mayBe_49 : decode mLetters_mayBe.2.1 49 = .ok (.ireturn, 1) := by decide +kernel
theorem dLetters_areOfExtra_0 : decode mLetters_areOfExtra.2.1 0 = .ok (.iload_n 0, 1) := by decide +kernel
theorem dLetters_areOfExtra_1 : decode mLetters_areOfExtra.2.1 1 = .ok (.invokestatic 20, 3) := by decide +kernel
theorem dLetters_areOfExtra_4 : decode mLetters_areOfExtra.2.1 4 = .ok (.ifCond .eq 38, 3) := by decide +kernel
theorem dLetters_areOfExtra_7 : decode mLetters_areOfExtra.2.1 7 = .ok (.iload_n 0, 1) := by decide +kernel
theorem dLetters_areOfExtra_8 : decode mLetters_areOfExtra.2.1 8 = .ok (.invokestatic 23, 3) := by decide +kernel
theorem dLetters_areOfExtra_11 : decode mLetters_areOfExtra.2.1 11 = .ok (.ifCond .ne 31, 3) := by decide +kernel
theorem dLetters_areOfExtra_14 : decode mLetters_areOfExtra.2.1 14 = .ok (.iload_n 0, 1) := by decide +kernel
theorem dLetters_areOfExtra_15 : decode mLetters_areOfExtra.2.1 15 = .ok (.ldc 26, 2) := by decide +kernel
theorem dLetters_areOfExtra_17 : decode mLetters_areOfExtra.2.1 17 = .ok (.if_icmp .eq 25, 3) := by decide +kernel
theorem dLetters_areOfExtra_20 : decode mLetters_areOfExtra.2.1 20 = .ok (.iload_n 0, 1) := by decide +kernel
theorem dLetters_areOfExtra_21 : decode mLetters_areOfExtra.2.1 21 = .ok (.ldc 27, 2) := by decide +kernel
theorem dLetters_areOfExtra_23 : decode mLetters_areOfExtra.2.1 23 = .ok (.if_icmp .eq 19, 3) := by decide +kernel
theorem dLetters_areOfExtra_26 : decode mLetters_areOfExtra.2.1 26 = .ok (.iload_n 0, 1) := by decide +kernel
theorem dLetters_areOfExtra_27 : decode mLetters_areOfExtra.2.1 27 = .ok (.ldc 28, 2) := by decide +kernel
theorem dLetters_areOfExtra_29 : decode mLetters_areOfExtra.2.1 29 = .ok (.if_icmp .eq 13, 3) := by decide +kernel
theorem dLetters_areOfExtra_32 : decode mLetters_areOfExtra.2.1 32 = .ok (.iload_n 0, 1) := by decide +kernel
theorem dLetters_areOfExtra_33 : decode mLetters_areOfExtra.2.1 33 = .ok (.ldc 29, 2) := by decide +kernel
theorem dLetters_areOfExtra_35 : decode mLetters_areOfExtra.2.1 35 = .ok (.if_icmp .eq 7, 3) := by decide +kernel
theorem dLetters_areOfExtra_38 : decode mLetters_areOfExtra.2.1 38 = .ok (.iconst 1, 1) := by decide +kernel
theorem dLetters_areOfExtra_39 : decode mLetters_areOfExtra.2.1 39 = .ok (.goto 4, 3) := by decide +kernel
theorem dLetters_areOfExtra_42 : decode mLetters_areOfExtra.2.1 42 = .ok (.iconst 0, 1) := by decide +kernel
theorem dLetters_areOfExtra_43 : decode mLetters_areOfExtra.2.1 43 = .ok (.ireturn, 1) := by decide +kernel
theorem dLetters_firstIsGreat_0 : decode mLetters_firstIsGreat.2.1 0 = .ok (.iload_n 0, 1) := by decide +kernel
theorem dLetters_firstIsGreat_1 : decode mLetters_firstIsGreat.2.1 1 = .ok (.iconst 0, 1) := by decide +kernel
theorem dLetters_firstIsGreat_2 : decode mLetters_firstIsGreat.2.1 2 = .ok (.invokestatic 7, 3) := by decide +kernel
theorem dLetters_firstIsGreat_5 : decode mLetters_firstIsGreat.2.1 5 = .ok (.invokestatic 17, 3) := by decide +kernel
theorem dLetters_firstIsGreat_8 : decode mLetters_firstIsGreat.2.1 8 = .ok (.ireturn, 1) := by decide +kernel
theorem dLetters_fourthIsGreat_0 : decode mLetters_fourthIsGreat.2.1 0 = .ok (.iload_n 0, 1) := by decide +kernel
theorem dLetters_fourthIsGreat_1 : decode mLetters_fourthIsGreat.2.1 1 = .ok (.iconst 3, 1) := by decide +kernel
theorem dLetters_fourthIsGreat_2 : decode mLetters_fourthIsGreat.2.1 2 = .ok (.invokestatic 7, 3) := by decide +kernel
theorem dLetters_fourthIsGreat_5 : decode mLetters_fourthIsGreat.2.1 5 = .ok (.invokestatic 17, 3) := by decide +kernel
theorem dLetters_fourthIsGreat_8 : decode mLetters_fourthIsGreat.2.1 8 = .ok (.ireturn, 1) := by decide +kernel
theorem dLetters_letter_0 : decode mLetters_letter.2.1 0 = .ok (.iload_n 0, 1) := by decide +kernel
theorem dLetters_letter_1 : decode mLetters_letter.2.1 1 = .ok (.bipush 24, 2) := by decide +kernel
theorem dLetters_letter_3 : decode mLetters_letter.2.1 3 = .ok (.bipush 8, 2) := by decide +kernel
theorem dLetters_letter_5 : decode mLetters_letter.2.1 5 = .ok (.iload_n 1, 1) := by decide +kernel
theorem dLetters_letter_6 : decode mLetters_letter.2.1 6 = .ok (.imul, 1) := by decide +kernel
theorem dLetters_letter_7 : decode mLetters_letter.2.1 7 = .ok (.isub, 1) := by decide +kernel
theorem dLetters_letter_8 : decode mLetters_letter.2.1 8 = .ok (.iushr, 1) := by decide +kernel
theorem dLetters_letter_9 : decode mLetters_letter.2.1 9 = .ok (.sipush 255, 3) := by decide +kernel
theorem dLetters_letter_12 : decode mLetters_letter.2.1 12 = .ok (.iand, 1) := by decide +kernel
theorem dLetters_letter_13 : decode mLetters_letter.2.1 13 = .ok (.ireturn, 1) := by decide +kernel
theorem dLetters_isLetter_0 : decode mLetters_isLetter.2.1 0 = .ok (.iload_n 0, 1) := by decide +kernel
theorem dLetters_isLetter_1 : decode mLetters_isLetter.2.1 1 = .ok (.invokestatic 17, 3) := by decide +kernel
theorem dLetters_isLetter_4 : decode mLetters_isLetter.2.1 4 = .ok (.ifCond .ne 15, 3) := by decide +kernel
theorem dLetters_isLetter_7 : decode mLetters_isLetter.2.1 7 = .ok (.iload_n 0, 1) := by decide +kernel
theorem dLetters_isLetter_8 : decode mLetters_isLetter.2.1 8 = .ok (.bipush 97, 2) := by decide +kernel
theorem dLetters_isLetter_10 : decode mLetters_isLetter.2.1 10 = .ok (.if_icmp .lt 13, 3) := by decide +kernel
theorem dLetters_isLetter_13 : decode mLetters_isLetter.2.1 13 = .ok (.iload_n 0, 1) := by decide +kernel
theorem dLetters_isLetter_14 : decode mLetters_isLetter.2.1 14 = .ok (.bipush 122, 2) := by decide +kernel
theorem dLetters_isLetter_16 : decode mLetters_isLetter.2.1 16 = .ok (.if_icmp .gt 7, 3) := by decide +kernel
theorem dLetters_isLetter_19 : decode mLetters_isLetter.2.1 19 = .ok (.iconst 1, 1) := by decide +kernel
theorem dLetters_isLetter_20 : decode mLetters_isLetter.2.1 20 = .ok (.goto 4, 3) := by decide +kernel
theorem dLetters_isLetter_23 : decode mLetters_isLetter.2.1 23 = .ok (.iconst 0, 1) := by decide +kernel
theorem dLetters_isLetter_24 : decode mLetters_isLetter.2.1 24 = .ok (.ireturn, 1) := by decide +kernel
theorem dLetters_isGreat_0 : decode mLetters_isGreat.2.1 0 = .ok (.iload_n 0, 1) := by decide +kernel
theorem dLetters_isGreat_1 : decode mLetters_isGreat.2.1 1 = .ok (.bipush 65, 2) := by decide +kernel
theorem dLetters_isGreat_3 : decode mLetters_isGreat.2.1 3 = .ok (.if_icmp .lt 13, 3) := by decide +kernel
theorem dLetters_isGreat_6 : decode mLetters_isGreat.2.1 6 = .ok (.iload_n 0, 1) := by decide +kernel
theorem dLetters_isGreat_7 : decode mLetters_isGreat.2.1 7 = .ok (.bipush 90, 2) := by decide +kernel
theorem dLetters_isGreat_9 : decode mLetters_isGreat.2.1 9 = .ok (.if_icmp .gt 7, 3) := by decide +kernel
theorem dLetters_isGreat_12 : decode mLetters_isGreat.2.1 12 = .ok (.iconst 1, 1) := by decide +kernel
theorem dLetters_isGreat_13 : decode mLetters_isGreat.2.1 13 = .ok (.goto 4, 3) := by decide +kernel
theorem dLetters_isGreat_16 : decode mLetters_isGreat.2.1 16 = .ok (.iconst 0, 1) := by decide +kernel
theorem dLetters_isGreat_17 : decode mLetters_isGreat.2.1 17 = .ok (.ireturn, 1) := by decide +kernel
theorem dRows_lengthOf_0 : decode mRows_lengthOf.2.1 0 = .ok (.aload_n 0, 1) := by decide +kernel
theorem dRows_lengthOf_1 : decode mRows_lengthOf.2.1 1 = .ok (.invokestatic 9, 3) := by decide +kernel
theorem dRows_lengthOf_4 : decode mRows_lengthOf.2.1 4 = .ok (.aload_n 0, 1) := by decide +kernel
theorem dRows_lengthOf_5 : decode mRows_lengthOf.2.1 5 = .ok (.getfield 15, 3) := by decide +kernel
theorem dRows_lengthOf_8 : decode mRows_lengthOf.2.1 8 = .ok (.imul, 1) := by decide +kernel
theorem dRows_lengthOf_9 : decode mRows_lengthOf.2.1 9 = .ok (.ireturn, 1) := by decide +kernel
theorem dRows_pack_0 : decode mRows_pack.2.1 0 = .ok (.aload_n 1, 1) := by decide +kernel
theorem dRows_pack_1 : decode mRows_pack.2.1 1 = .ok (.invokevirtual 21, 3) := by decide +kernel
theorem dRows_pack_4 : decode mRows_pack.2.1 4 = .ok (.iconst 0, 1) := by decide +kernel
theorem dRows_pack_5 : decode mRows_pack.2.1 5 = .ok (.istore_n 2, 1) := by decide +kernel
theorem dRows_pack_6 : decode mRows_pack.2.1 6 = .ok (.iload_n 2, 1) := by decide +kernel
theorem dRows_pack_7 : decode mRows_pack.2.1 7 = .ok (.aload_n 0, 1) := by decide +kernel
theorem dRows_pack_8 : decode mRows_pack.2.1 8 = .ok (.getfield 15, 3) := by decide +kernel
theorem dRows_pack_11 : decode mRows_pack.2.1 11 = .ok (.if_icmp .ge 20, 3) := by decide +kernel
theorem dRows_pack_14 : decode mRows_pack.2.1 14 = .ok (.aload_n 1, 1) := by decide +kernel
theorem dRows_pack_15 : decode mRows_pack.2.1 15 = .ok (.iconst 0, 1) := by decide +kernel
theorem dRows_pack_16 : decode mRows_pack.2.1 16 = .ok (.invokevirtual 26, 3) := by decide +kernel
theorem dRows_pack_19 : decode mRows_pack.2.1 19 = .ok (.aload_n 0, 1) := by decide +kernel
theorem dRows_pack_20 : decode mRows_pack.2.1 20 = .ok (.iload_n 2, 1) := by decide +kernel
theorem dRows_pack_21 : decode mRows_pack.2.1 21 = .ok (.aload_n 1, 1) := by decide +kernel
theorem dRows_pack_22 : decode mRows_pack.2.1 22 = .ok (.invokestatic 30, 3) := by decide +kernel
theorem dRows_pack_25 : decode mRows_pack.2.1 25 = .ok (.iinc 2 1, 3) := by decide +kernel
theorem dRows_pack_28 : decode mRows_pack.2.1 28 = .ok (.goto (-22), 3) := by decide +kernel
theorem dRows_pack_31 : decode mRows_pack.2.1 31 = .ok (.return_, 1) := by decide +kernel
theorem dRows_unpack_0 : decode mRows_unpack.2.1 0 = .ok (.aload_n 1, 1) := by decide +kernel
theorem dRows_unpack_1 : decode mRows_unpack.2.1 1 = .ok (.invokestatic 9, 3) := by decide +kernel
theorem dRows_unpack_4 : decode mRows_unpack.2.1 4 = .ok (.istore_n 2, 1) := by decide +kernel
theorem dRows_unpack_5 : decode mRows_unpack.2.1 5 = .ok (.iconst 0, 1) := by decide +kernel
theorem dRows_unpack_6 : decode mRows_unpack.2.1 6 = .ok (.istore_n 3, 1) := by decide +kernel
theorem dRows_unpack_7 : decode mRows_unpack.2.1 7 = .ok (.iload_n 3, 1) := by decide +kernel
theorem dRows_unpack_8 : decode mRows_unpack.2.1 8 = .ok (.aload_n 1, 1) := by decide +kernel
theorem dRows_unpack_9 : decode mRows_unpack.2.1 9 = .ok (.getfield 15, 3) := by decide +kernel
theorem dRows_unpack_12 : decode mRows_unpack.2.1 12 = .ok (.if_icmp .ge 55, 3) := by decide +kernel
theorem dRows_unpack_15 : decode mRows_unpack.2.1 15 = .ok (.iload_n 3, 1) := by decide +kernel
theorem dRows_unpack_16 : decode mRows_unpack.2.1 16 = .ok (.iload_n 2, 1) := by decide +kernel
theorem dRows_unpack_17 : decode mRows_unpack.2.1 17 = .ok (.imul, 1) := by decide +kernel
theorem dRows_unpack_18 : decode mRows_unpack.2.1 18 = .ok (.istore 4, 2) := by decide +kernel
theorem dRows_unpack_20 : decode mRows_unpack.2.1 20 = .ok (.aload_n 0, 1) := by decide +kernel
theorem dRows_unpack_21 : decode mRows_unpack.2.1 21 = .ok (.iload 4, 2) := by decide +kernel
theorem dRows_unpack_23 : decode mRows_unpack.2.1 23 = .ok (.invokevirtual 34, 3) := by decide +kernel
theorem dRows_unpack_26 : decode mRows_unpack.2.1 26 = .ok (.ifCond .ne 33, 3) := by decide +kernel
theorem dRows_unpack_29 : decode mRows_unpack.2.1 29 = .ok (.aload_n 0, 1) := by decide +kernel
theorem dRows_unpack_30 : decode mRows_unpack.2.1 30 = .ok (.iload 4, 2) := by decide +kernel
theorem dRows_unpack_32 : decode mRows_unpack.2.1 32 = .ok (.iload_n 2, 1) := by decide +kernel
theorem dRows_unpack_33 : decode mRows_unpack.2.1 33 = .ok (.iadd, 1) := by decide +kernel
theorem dRows_unpack_34 : decode mRows_unpack.2.1 34 = .ok (.iconst 1, 1) := by decide +kernel
theorem dRows_unpack_35 : decode mRows_unpack.2.1 35 = .ok (.isub, 1) := by decide +kernel
theorem dRows_unpack_36 : decode mRows_unpack.2.1 36 = .ok (.invokevirtual 34, 3) := by decide +kernel
theorem dRows_unpack_39 : decode mRows_unpack.2.1 39 = .ok (.aload_n 1, 1) := by decide +kernel
theorem dRows_unpack_40 : decode mRows_unpack.2.1 40 = .ok (.invokestatic 38, 3) := by decide +kernel
theorem dRows_unpack_43 : decode mRows_unpack.2.1 43 = .ok (.ifCond .eq 16, 3) := by decide +kernel
theorem dRows_unpack_46 : decode mRows_unpack.2.1 46 = .ok (.aload_n 0, 1) := by decide +kernel
theorem dRows_unpack_47 : decode mRows_unpack.2.1 47 = .ok (.iload 4, 2) := by decide +kernel
theorem dRows_unpack_49 : decode mRows_unpack.2.1 49 = .ok (.iconst 1, 1) := by decide +kernel
theorem dRows_unpack_50 : decode mRows_unpack.2.1 50 = .ok (.iadd, 1) := by decide +kernel
theorem dRows_unpack_51 : decode mRows_unpack.2.1 51 = .ok (.aload_n 1, 1) := by decide +kernel
theorem dRows_unpack_52 : decode mRows_unpack.2.1 52 = .ok (.iload_n 3, 1) := by decide +kernel
theorem dRows_unpack_53 : decode mRows_unpack.2.1 53 = .ok (.invokestatic 42, 3) := by decide +kernel
theorem dRows_unpack_56 : decode mRows_unpack.2.1 56 = .ok (.ifCond .ne 5, 3) := by decide +kernel
theorem dRows_unpack_59 : decode mRows_unpack.2.1 59 = .ok (.iconst 0, 1) := by decide +kernel
theorem dRows_unpack_60 : decode mRows_unpack.2.1 60 = .ok (.ireturn, 1) := by decide +kernel
theorem dRows_unpack_61 : decode mRows_unpack.2.1 61 = .ok (.iinc 3 1, 3) := by decide +kernel
theorem dRows_unpack_64 : decode mRows_unpack.2.1 64 = .ok (.goto (-57), 3) := by decide +kernel
theorem dRows_unpack_67 : decode mRows_unpack.2.1 67 = .ok (.iconst 1, 1) := by decide +kernel
theorem dRows_unpack_68 : decode mRows_unpack.2.1 68 = .ok (.ireturn, 1) := by decide +kernel
theorem dRows_packRow_0 : decode mRows_packRow.2.1 0 = .ok (.iconst 0, 1) := by decide +kernel
theorem dRows_packRow_1 : decode mRows_packRow.2.1 1 = .ok (.istore_n 3, 1) := by decide +kernel
theorem dRows_packRow_2 : decode mRows_packRow.2.1 2 = .ok (.iconst 0, 1) := by decide +kernel
theorem dRows_packRow_3 : decode mRows_packRow.2.1 3 = .ok (.istore 4, 2) := by decide +kernel
theorem dRows_packRow_5 : decode mRows_packRow.2.1 5 = .ok (.iconst 0, 1) := by decide +kernel
theorem dRows_packRow_6 : decode mRows_packRow.2.1 6 = .ok (.istore 5, 2) := by decide +kernel
theorem dRows_packRow_8 : decode mRows_packRow.2.1 8 = .ok (.iload 5, 2) := by decide +kernel
theorem dRows_packRow_10 : decode mRows_packRow.2.1 10 = .ok (.aload_n 0, 1) := by decide +kernel
theorem dRows_packRow_11 : decode mRows_packRow.2.1 11 = .ok (.getfield 46, 3) := by decide +kernel
theorem dRows_packRow_14 : decode mRows_packRow.2.1 14 = .ok (.if_icmp .ge 70, 3) := by decide +kernel
theorem dRows_packRow_17 : decode mRows_packRow.2.1 17 = .ok (.iconst 0, 1) := by decide +kernel
theorem dRows_packRow_18 : decode mRows_packRow.2.1 18 = .ok (.istore 6, 2) := by decide +kernel
theorem dRows_packRow_20 : decode mRows_packRow.2.1 20 = .ok (.iload 6, 2) := by decide +kernel
theorem dRows_packRow_22 : decode mRows_packRow.2.1 22 = .ok (.aload_n 0, 1) := by decide +kernel
theorem dRows_packRow_23 : decode mRows_packRow.2.1 23 = .ok (.getfield 49, 3) := by decide +kernel
theorem dRows_packRow_26 : decode mRows_packRow.2.1 26 = .ok (.if_icmp .ge 52, 3) := by decide +kernel
theorem dRows_packRow_29 : decode mRows_packRow.2.1 29 = .ok (.iload_n 3, 1) := by decide +kernel
theorem dRows_packRow_30 : decode mRows_packRow.2.1 30 = .ok (.aload_n 0, 1) := by decide +kernel
theorem dRows_packRow_31 : decode mRows_packRow.2.1 31 = .ok (.getfield 52, 3) := by decide +kernel
theorem dRows_packRow_34 : decode mRows_packRow.2.1 34 = .ok (.ishl, 1) := by decide +kernel
theorem dRows_packRow_35 : decode mRows_packRow.2.1 35 = .ok (.aload_n 0, 1) := by decide +kernel
theorem dRows_packRow_36 : decode mRows_packRow.2.1 36 = .ok (.iload 5, 2) := by decide +kernel
theorem dRows_packRow_38 : decode mRows_packRow.2.1 38 = .ok (.iload_n 1, 1) := by decide +kernel
theorem dRows_packRow_39 : decode mRows_packRow.2.1 39 = .ok (.iload 6, 2) := by decide +kernel
theorem dRows_packRow_41 : decode mRows_packRow.2.1 41 = .ok (.invokevirtual 55, 3) := by decide +kernel
theorem dRows_packRow_44 : decode mRows_packRow.2.1 44 = .ok (.ior, 1) := by decide +kernel
theorem dRows_packRow_45 : decode mRows_packRow.2.1 45 = .ok (.istore_n 3, 1) := by decide +kernel
theorem dRows_packRow_46 : decode mRows_packRow.2.1 46 = .ok (.iload 4, 2) := by decide +kernel
theorem dRows_packRow_48 : decode mRows_packRow.2.1 48 = .ok (.aload_n 0, 1) := by decide +kernel
theorem dRows_packRow_49 : decode mRows_packRow.2.1 49 = .ok (.getfield 52, 3) := by decide +kernel
theorem dRows_packRow_52 : decode mRows_packRow.2.1 52 = .ok (.iadd, 1) := by decide +kernel
theorem dRows_packRow_53 : decode mRows_packRow.2.1 53 = .ok (.istore 4, 2) := by decide +kernel
theorem dRows_packRow_55 : decode mRows_packRow.2.1 55 = .ok (.iload 4, 2) := by decide +kernel
theorem dRows_packRow_57 : decode mRows_packRow.2.1 57 = .ok (.bipush 8, 2) := by decide +kernel
theorem dRows_packRow_59 : decode mRows_packRow.2.1 59 = .ok (.if_icmp .ne 13, 3) := by decide +kernel
theorem dRows_packRow_62 : decode mRows_packRow.2.1 62 = .ok (.aload_n 2, 1) := by decide +kernel
theorem dRows_packRow_63 : decode mRows_packRow.2.1 63 = .ok (.iload_n 3, 1) := by decide +kernel
theorem dRows_packRow_64 : decode mRows_packRow.2.1 64 = .ok (.invokevirtual 26, 3) := by decide +kernel
theorem dRows_packRow_67 : decode mRows_packRow.2.1 67 = .ok (.iconst 0, 1) := by decide +kernel
theorem dRows_packRow_68 : decode mRows_packRow.2.1 68 = .ok (.istore_n 3, 1) := by decide +kernel
theorem dRows_packRow_69 : decode mRows_packRow.2.1 69 = .ok (.iconst 0, 1) := by decide +kernel
theorem dRows_packRow_70 : decode mRows_packRow.2.1 70 = .ok (.istore 4, 2) := by decide +kernel
theorem dRows_packRow_72 : decode mRows_packRow.2.1 72 = .ok (.iinc 6 1, 3) := by decide +kernel
theorem dRows_packRow_75 : decode mRows_packRow.2.1 75 = .ok (.goto (-55), 3) := by decide +kernel
theorem dRows_packRow_78 : decode mRows_packRow.2.1 78 = .ok (.iinc 5 1, 3) := by decide +kernel
theorem dRows_packRow_81 : decode mRows_packRow.2.1 81 = .ok (.goto (-73), 3) := by decide +kernel
theorem dRows_packRow_84 : decode mRows_packRow.2.1 84 = .ok (.iload 4, 2) := by decide +kernel
theorem dRows_packRow_86 : decode mRows_packRow.2.1 86 = .ok (.ifCond .le 14, 3) := by decide +kernel
theorem dRows_packRow_89 : decode mRows_packRow.2.1 89 = .ok (.aload_n 2, 1) := by decide +kernel
theorem dRows_packRow_90 : decode mRows_packRow.2.1 90 = .ok (.iload_n 3, 1) := by decide +kernel
theorem dRows_packRow_91 : decode mRows_packRow.2.1 91 = .ok (.bipush 8, 2) := by decide +kernel
theorem dRows_packRow_93 : decode mRows_packRow.2.1 93 = .ok (.iload 4, 2) := by decide +kernel
theorem dRows_packRow_95 : decode mRows_packRow.2.1 95 = .ok (.isub, 1) := by decide +kernel
theorem dRows_packRow_96 : decode mRows_packRow.2.1 96 = .ok (.ishl, 1) := by decide +kernel
theorem dRows_packRow_97 : decode mRows_packRow.2.1 97 = .ok (.invokevirtual 26, 3) := by decide +kernel
theorem dRows_packRow_100 : decode mRows_packRow.2.1 100 = .ok (.return_, 1) := by decide +kernel
theorem dRows_unpackRow_0 : decode mRows_unpackRow.2.1 0 = .ok (.iconst 0, 1) := by decide +kernel
theorem dRows_unpackRow_1 : decode mRows_unpackRow.2.1 1 = .ok (.istore 4, 2) := by decide +kernel
theorem dRows_unpackRow_3 : decode mRows_unpackRow.2.1 3 = .ok (.iconst 0, 1) := by decide +kernel
theorem dRows_unpackRow_4 : decode mRows_unpackRow.2.1 4 = .ok (.istore 5, 2) := by decide +kernel
theorem dRows_unpackRow_6 : decode mRows_unpackRow.2.1 6 = .ok (.iload 5, 2) := by decide +kernel
theorem dRows_unpackRow_8 : decode mRows_unpackRow.2.1 8 = .ok (.aload_n 2, 1) := by decide +kernel
theorem dRows_unpackRow_9 : decode mRows_unpackRow.2.1 9 = .ok (.getfield 46, 3) := by decide +kernel
theorem dRows_unpackRow_12 : decode mRows_unpackRow.2.1 12 = .ok (.if_icmp .ge 96, 3) := by decide +kernel
theorem dRows_unpackRow_15 : decode mRows_unpackRow.2.1 15 = .ok (.iconst 0, 1) := by decide +kernel
theorem dRows_unpackRow_16 : decode mRows_unpackRow.2.1 16 = .ok (.istore 6, 2) := by decide +kernel
theorem dRows_unpackRow_18 : decode mRows_unpackRow.2.1 18 = .ok (.iload 6, 2) := by decide +kernel
theorem dRows_unpackRow_20 : decode mRows_unpackRow.2.1 20 = .ok (.aload_n 2, 1) := by decide +kernel
theorem dRows_unpackRow_21 : decode mRows_unpackRow.2.1 21 = .ok (.getfield 49, 3) := by decide +kernel
theorem dRows_unpackRow_24 : decode mRows_unpackRow.2.1 24 = .ok (.if_icmp .ge 78, 3) := by decide +kernel
theorem dRows_unpackRow_27 : decode mRows_unpackRow.2.1 27 = .ok (.bipush 8, 2) := by decide +kernel
theorem dRows_unpackRow_29 : decode mRows_unpackRow.2.1 29 = .ok (.aload_n 2, 1) := by decide +kernel
theorem dRows_unpackRow_30 : decode mRows_unpackRow.2.1 30 = .ok (.getfield 52, 3) := by decide +kernel
theorem dRows_unpackRow_33 : decode mRows_unpackRow.2.1 33 = .ok (.isub, 1) := by decide +kernel
theorem dRows_unpackRow_34 : decode mRows_unpackRow.2.1 34 = .ok (.iload 4, 2) := by decide +kernel
theorem dRows_unpackRow_36 : decode mRows_unpackRow.2.1 36 = .ok (.bipush 7, 2) := by decide +kernel
theorem dRows_unpackRow_38 : decode mRows_unpackRow.2.1 38 = .ok (.iand, 1) := by decide +kernel
theorem dRows_unpackRow_39 : decode mRows_unpackRow.2.1 39 = .ok (.isub, 1) := by decide +kernel
theorem dRows_unpackRow_40 : decode mRows_unpackRow.2.1 40 = .ok (.istore 7, 2) := by decide +kernel
theorem dRows_unpackRow_42 : decode mRows_unpackRow.2.1 42 = .ok (.aload_n 0, 1) := by decide +kernel
theorem dRows_unpackRow_43 : decode mRows_unpackRow.2.1 43 = .ok (.iload_n 1, 1) := by decide +kernel
theorem dRows_unpackRow_44 : decode mRows_unpackRow.2.1 44 = .ok (.iload 4, 2) := by decide +kernel
theorem dRows_unpackRow_46 : decode mRows_unpackRow.2.1 46 = .ok (.iconst 3, 1) := by decide +kernel
theorem dRows_unpackRow_47 : decode mRows_unpackRow.2.1 47 = .ok (.ishr, 1) := by decide +kernel
theorem dRows_unpackRow_48 : decode mRows_unpackRow.2.1 48 = .ok (.iadd, 1) := by decide +kernel
theorem dRows_unpackRow_49 : decode mRows_unpackRow.2.1 49 = .ok (.invokevirtual 34, 3) := by decide +kernel
theorem dRows_unpackRow_52 : decode mRows_unpackRow.2.1 52 = .ok (.iload 7, 2) := by decide +kernel
theorem dRows_unpackRow_54 : decode mRows_unpackRow.2.1 54 = .ok (.iushr, 1) := by decide +kernel
theorem dRows_unpackRow_55 : decode mRows_unpackRow.2.1 55 = .ok (.aload_n 2, 1) := by decide +kernel
theorem dRows_unpackRow_56 : decode mRows_unpackRow.2.1 56 = .ok (.getfield 52, 3) := by decide +kernel
theorem dRows_unpackRow_59 : decode mRows_unpackRow.2.1 59 = .ok (.invokestatic 59, 3) := by decide +kernel
theorem dRows_unpackRow_62 : decode mRows_unpackRow.2.1 62 = .ok (.iand, 1) := by decide +kernel
theorem dRows_unpackRow_63 : decode mRows_unpackRow.2.1 63 = .ok (.istore 8, 2) := by decide +kernel
theorem dRows_unpackRow_65 : decode mRows_unpackRow.2.1 65 = .ok (.aload_n 2, 1) := by decide +kernel
theorem dRows_unpackRow_66 : decode mRows_unpackRow.2.1 66 = .ok (.iload 8, 2) := by decide +kernel
theorem dRows_unpackRow_68 : decode mRows_unpackRow.2.1 68 = .ok (.invokevirtual 62, 3) := by decide +kernel
theorem dRows_unpackRow_71 : decode mRows_unpackRow.2.1 71 = .ok (.ifCond .ne 5, 3) := by decide +kernel
theorem dRows_unpackRow_74 : decode mRows_unpackRow.2.1 74 = .ok (.iconst 0, 1) := by decide +kernel
theorem dRows_unpackRow_75 : decode mRows_unpackRow.2.1 75 = .ok (.ireturn, 1) := by decide +kernel
theorem dRows_unpackRow_76 : decode mRows_unpackRow.2.1 76 = .ok (.aload_n 2, 1) := by decide +kernel
theorem dRows_unpackRow_77 : decode mRows_unpackRow.2.1 77 = .ok (.iload 5, 2) := by decide +kernel
theorem dRows_unpackRow_79 : decode mRows_unpackRow.2.1 79 = .ok (.iload_n 3, 1) := by decide +kernel
theorem dRows_unpackRow_80 : decode mRows_unpackRow.2.1 80 = .ok (.iload 6, 2) := by decide +kernel
theorem dRows_unpackRow_82 : decode mRows_unpackRow.2.1 82 = .ok (.iload 8, 2) := by decide +kernel
theorem dRows_unpackRow_84 : decode mRows_unpackRow.2.1 84 = .ok (.invokevirtual 66, 3) := by decide +kernel
theorem dRows_unpackRow_87 : decode mRows_unpackRow.2.1 87 = .ok (.iload 4, 2) := by decide +kernel
theorem dRows_unpackRow_89 : decode mRows_unpackRow.2.1 89 = .ok (.aload_n 2, 1) := by decide +kernel
theorem dRows_unpackRow_90 : decode mRows_unpackRow.2.1 90 = .ok (.getfield 52, 3) := by decide +kernel
theorem dRows_unpackRow_93 : decode mRows_unpackRow.2.1 93 = .ok (.iadd, 1) := by decide +kernel
theorem dRows_unpackRow_94 : decode mRows_unpackRow.2.1 94 = .ok (.istore 4, 2) := by decide +kernel
theorem dRows_unpackRow_96 : decode mRows_unpackRow.2.1 96 = .ok (.iinc 6 1, 3) := by decide +kernel
theorem dRows_unpackRow_99 : decode mRows_unpackRow.2.1 99 = .ok (.goto (-81), 3) := by decide +kernel
theorem dRows_unpackRow_102 : decode mRows_unpackRow.2.1 102 = .ok (.iinc 5 1, 3) := by decide +kernel
theorem dRows_unpackRow_105 : decode mRows_unpackRow.2.1 105 = .ok (.goto (-99), 3) := by decide +kernel
theorem dRows_unpackRow_108 : decode mRows_unpackRow.2.1 108 = .ok (.iconst 1, 1) := by decide +kernel
theorem dRows_unpackRow_109 : decode mRows_unpackRow.2.1 109 = .ok (.ireturn, 1) := by decide +kernel
theorem dRows_isFilledWithNought_0 : decode mRows_isFilledWithNought.2.1 0 = .ok (.aload_n 1, 1) := by decide +kernel
theorem dRows_isFilledWithNought_1 : decode mRows_isFilledWithNought.2.1 1 = .ok (.invokestatic 70, 3) := by decide +kernel
theorem dRows_isFilledWithNought_4 : decode mRows_isFilledWithNought.2.1 4 = .ok (.bipush 7, 2) := by decide +kernel
theorem dRows_isFilledWithNought_6 : decode mRows_isFilledWithNought.2.1 6 = .ok (.iand, 1) := by decide +kernel
theorem dRows_isFilledWithNought_7 : decode mRows_isFilledWithNought.2.1 7 = .ok (.istore_n 2, 1) := by decide +kernel
theorem dRows_isFilledWithNought_8 : decode mRows_isFilledWithNought.2.1 8 = .ok (.iload_n 2, 1) := by decide +kernel
theorem dRows_isFilledWithNought_9 : decode mRows_isFilledWithNought.2.1 9 = .ok (.ifCond .eq 15, 3) := by decide +kernel
theorem dRows_isFilledWithNought_12 : decode mRows_isFilledWithNought.2.1 12 = .ok (.iload_n 0, 1) := by decide +kernel
theorem dRows_isFilledWithNought_13 : decode mRows_isFilledWithNought.2.1 13 = .ok (.bipush 8, 2) := by decide +kernel
theorem dRows_isFilledWithNought_15 : decode mRows_isFilledWithNought.2.1 15 = .ok (.iload_n 2, 1) := by decide +kernel
theorem dRows_isFilledWithNought_16 : decode mRows_isFilledWithNought.2.1 16 = .ok (.isub, 1) := by decide +kernel
theorem dRows_isFilledWithNought_17 : decode mRows_isFilledWithNought.2.1 17 = .ok (.invokestatic 59, 3) := by decide +kernel
theorem dRows_isFilledWithNought_20 : decode mRows_isFilledWithNought.2.1 20 = .ok (.iand, 1) := by decide +kernel
theorem dRows_isFilledWithNought_21 : decode mRows_isFilledWithNought.2.1 21 = .ok (.ifCond .ne 7, 3) := by decide +kernel
theorem dRows_isFilledWithNought_24 : decode mRows_isFilledWithNought.2.1 24 = .ok (.iconst 1, 1) := by decide +kernel
theorem dRows_isFilledWithNought_25 : decode mRows_isFilledWithNought.2.1 25 = .ok (.goto 4, 3) := by decide +kernel
theorem dRows_isFilledWithNought_28 : decode mRows_isFilledWithNought.2.1 28 = .ok (.iconst 0, 1) := by decide +kernel
theorem dRows_isFilledWithNought_29 : decode mRows_isFilledWithNought.2.1 29 = .ok (.ireturn, 1) := by decide +kernel
theorem dRows_rowLength_0 : decode mRows_rowLength.2.1 0 = .ok (.iconst 1, 1) := by decide +kernel
theorem dRows_rowLength_1 : decode mRows_rowLength.2.1 1 = .ok (.aload_n 0, 1) := by decide +kernel
theorem dRows_rowLength_2 : decode mRows_rowLength.2.1 2 = .ok (.invokestatic 70, 3) := by decide +kernel
theorem dRows_rowLength_5 : decode mRows_rowLength.2.1 5 = .ok (.bipush 7, 2) := by decide +kernel
theorem dRows_rowLength_7 : decode mRows_rowLength.2.1 7 = .ok (.iadd, 1) := by decide +kernel
theorem dRows_rowLength_8 : decode mRows_rowLength.2.1 8 = .ok (.bipush 8, 2) := by decide +kernel
theorem dRows_rowLength_10 : decode mRows_rowLength.2.1 10 = .ok (.idiv, 1) := by decide +kernel
theorem dRows_rowLength_11 : decode mRows_rowLength.2.1 11 = .ok (.iadd, 1) := by decide +kernel
theorem dRows_rowLength_12 : decode mRows_rowLength.2.1 12 = .ok (.ireturn, 1) := by decide +kernel
theorem dRows_rowBits_0 : decode mRows_rowBits.2.1 0 = .ok (.aload_n 0, 1) := by decide +kernel
theorem dRows_rowBits_1 : decode mRows_rowBits.2.1 1 = .ok (.getfield 46, 3) := by decide +kernel
theorem dRows_rowBits_4 : decode mRows_rowBits.2.1 4 = .ok (.aload_n 0, 1) := by decide +kernel
theorem dRows_rowBits_5 : decode mRows_rowBits.2.1 5 = .ok (.getfield 49, 3) := by decide +kernel
theorem dRows_rowBits_8 : decode mRows_rowBits.2.1 8 = .ok (.imul, 1) := by decide +kernel
theorem dRows_rowBits_9 : decode mRows_rowBits.2.1 9 = .ok (.aload_n 0, 1) := by decide +kernel
theorem dRows_rowBits_10 : decode mRows_rowBits.2.1 10 = .ok (.getfield 52, 3) := by decide +kernel
theorem dRows_rowBits_13 : decode mRows_rowBits.2.1 13 = .ok (.imul, 1) := by decide +kernel
theorem dRows_rowBits_14 : decode mRows_rowBits.2.1 14 = .ok (.ireturn, 1) := by decide +kernel
theorem dLess_lessen_0 : decode mLess_lessen.2.1 0 = .ok (.aload_n 0, 1) := by decide +kernel
theorem dLess_lessen_1 : decode mLess_lessen.2.1 1 = .ok (.getfield 7, 3) := by decide +kernel
theorem dLess_lessen_4 : decode mLess_lessen.2.1 4 = .ok (.istore_n 1, 1) := by decide +kernel
theorem dLess_lessen_5 : decode mLess_lessen.2.1 5 = .ok (.aload_n 0, 1) := by decide +kernel
theorem dLess_lessen_6 : decode mLess_lessen.2.1 6 = .ok (.getfield 13, 3) := by decide +kernel
theorem dLess_lessen_9 : decode mLess_lessen.2.1 9 = .ok (.istore_n 2, 1) := by decide +kernel
theorem dLess_lessen_10 : decode mLess_lessen.2.1 10 = .ok (.aload_n 0, 1) := by decide +kernel
theorem dLess_lessen_11 : decode mLess_lessen.2.1 11 = .ok (.invokestatic 16, 3) := by decide +kernel
theorem dLess_lessen_14 : decode mLess_lessen.2.1 14 = .ok (.aload_n 0, 1) := by decide +kernel
theorem dLess_lessen_15 : decode mLess_lessen.2.1 15 = .ok (.invokestatic 22, 3) := by decide +kernel
theorem dLess_lessen_18 : decode mLess_lessen.2.1 18 = .ok (.aload_n 0, 1) := by decide +kernel
theorem dLess_lessen_19 : decode mLess_lessen.2.1 19 = .ok (.getfield 7, 3) := by decide +kernel
theorem dLess_lessen_22 : decode mLess_lessen.2.1 22 = .ok (.ifCond .ne 10, 3) := by decide +kernel
theorem dLess_lessen_25 : decode mLess_lessen.2.1 25 = .ok (.aload_n 0, 1) := by decide +kernel
theorem dLess_lessen_26 : decode mLess_lessen.2.1 26 = .ok (.invokestatic 25, 3) := by decide +kernel
theorem dLess_lessen_29 : decode mLess_lessen.2.1 29 = .ok (.goto 15, 3) := by decide +kernel
theorem dLess_lessen_32 : decode mLess_lessen.2.1 32 = .ok (.aload_n 0, 1) := by decide +kernel
theorem dLess_lessen_33 : decode mLess_lessen.2.1 33 = .ok (.getfield 7, 3) := by decide +kernel
theorem dLess_lessen_36 : decode mLess_lessen.2.1 36 = .ok (.iconst 3, 1) := by decide +kernel
theorem dLess_lessen_37 : decode mLess_lessen.2.1 37 = .ok (.if_icmp .ne 7, 3) := by decide +kernel
theorem dLess_lessen_40 : decode mLess_lessen.2.1 40 = .ok (.aload_n 0, 1) := by decide +kernel
theorem dLess_lessen_41 : decode mLess_lessen.2.1 41 = .ok (.invokestatic 30, 3) := by decide +kernel
theorem dLess_lessen_44 : decode mLess_lessen.2.1 44 = .ok (.aload_n 0, 1) := by decide +kernel
theorem dLess_lessen_45 : decode mLess_lessen.2.1 45 = .ok (.getfield 7, 3) := by decide +kernel
theorem dLess_lessen_48 : decode mLess_lessen.2.1 48 = .ok (.iload_n 1, 1) := by decide +kernel
theorem dLess_lessen_49 : decode mLess_lessen.2.1 49 = .ok (.if_icmp .ne 11, 3) := by decide +kernel
theorem dLess_lessen_52 : decode mLess_lessen.2.1 52 = .ok (.aload_n 0, 1) := by decide +kernel
theorem dLess_lessen_53 : decode mLess_lessen.2.1 53 = .ok (.getfield 13, 3) := by decide +kernel
theorem dLess_lessen_56 : decode mLess_lessen.2.1 56 = .ok (.iload_n 2, 1) := by decide +kernel
theorem dLess_lessen_57 : decode mLess_lessen.2.1 57 = .ok (.if_icmp .eq 7, 3) := by decide +kernel
theorem dLess_lessen_60 : decode mLess_lessen.2.1 60 = .ok (.aload_n 0, 1) := by decide +kernel
theorem dLess_lessen_61 : decode mLess_lessen.2.1 61 = .ok (.invokevirtual 33, 3) := by decide +kernel
theorem dLess_lessen_64 : decode mLess_lessen.2.1 64 = .ok (.return_, 1) := by decide +kernel
theorem dLess_lessenAlpha_0 : decode mLess_lessenAlpha.2.1 0 = .ok (.aload_n 0, 1) := by decide +kernel
theorem dLess_lessenAlpha_1 : decode mLess_lessenAlpha.2.1 1 = .ok (.getfield 7, 3) := by decide +kernel
theorem dLess_lessenAlpha_4 : decode mLess_lessenAlpha.2.1 4 = .ok (.bipush 6, 2) := by decide +kernel
theorem dLess_lessenAlpha_6 : decode mLess_lessenAlpha.2.1 6 = .ok (.if_icmp .ne 22, 3) := by decide +kernel
theorem dLess_lessenAlpha_9 : decode mLess_lessenAlpha.2.1 9 = .ok (.aload_n 0, 1) := by decide +kernel
theorem dLess_lessenAlpha_10 : decode mLess_lessenAlpha.2.1 10 = .ok (.invokestatic 36, 3) := by decide +kernel
theorem dLess_lessenAlpha_13 : decode mLess_lessenAlpha.2.1 13 = .ok (.ifCond .eq 15, 3) := by decide +kernel
theorem dLess_lessenAlpha_16 : decode mLess_lessenAlpha.2.1 16 = .ok (.aload_n 0, 1) := by decide +kernel
theorem dLess_lessenAlpha_17 : decode mLess_lessenAlpha.2.1 17 = .ok (.iconst 2, 1) := by decide +kernel
theorem dLess_lessenAlpha_18 : decode mLess_lessenAlpha.2.1 18 = .ok (.aload_n 0, 1) := by decide +kernel
theorem dLess_lessenAlpha_19 : decode mLess_lessenAlpha.2.1 19 = .ok (.getfield 13, 3) := by decide +kernel
theorem dLess_lessenAlpha_22 : decode mLess_lessenAlpha.2.1 22 = .ok (.invokevirtual 40, 3) := by decide +kernel
theorem dLess_lessenAlpha_25 : decode mLess_lessenAlpha.2.1 25 = .ok (.goto 27, 3) := by decide +kernel
theorem dLess_lessenAlpha_28 : decode mLess_lessenAlpha.2.1 28 = .ok (.aload_n 0, 1) := by decide +kernel
theorem dLess_lessenAlpha_29 : decode mLess_lessenAlpha.2.1 29 = .ok (.getfield 7, 3) := by decide +kernel
theorem dLess_lessenAlpha_32 : decode mLess_lessenAlpha.2.1 32 = .ok (.iconst 4, 1) := by decide +kernel
theorem dLess_lessenAlpha_33 : decode mLess_lessenAlpha.2.1 33 = .ok (.if_icmp .ne 19, 3) := by decide +kernel
theorem dLess_lessenAlpha_36 : decode mLess_lessenAlpha.2.1 36 = .ok (.aload_n 0, 1) := by decide +kernel
theorem dLess_lessenAlpha_37 : decode mLess_lessenAlpha.2.1 37 = .ok (.invokestatic 36, 3) := by decide +kernel
theorem dLess_lessenAlpha_40 : decode mLess_lessenAlpha.2.1 40 = .ok (.ifCond .eq 12, 3) := by decide +kernel
theorem dLess_lessenAlpha_43 : decode mLess_lessenAlpha.2.1 43 = .ok (.aload_n 0, 1) := by decide +kernel
theorem dLess_lessenAlpha_44 : decode mLess_lessenAlpha.2.1 44 = .ok (.iconst 0, 1) := by decide +kernel
theorem dLess_lessenAlpha_45 : decode mLess_lessenAlpha.2.1 45 = .ok (.aload_n 0, 1) := by decide +kernel
theorem dLess_lessenAlpha_46 : decode mLess_lessenAlpha.2.1 46 = .ok (.getfield 13, 3) := by decide +kernel
theorem dLess_lessenAlpha_49 : decode mLess_lessenAlpha.2.1 49 = .ok (.invokevirtual 40, 3) := by decide +kernel
theorem dLess_lessenAlpha_52 : decode mLess_lessenAlpha.2.1 52 = .ok (.return_, 1) := by decide +kernel
theorem dLess_lessenColours_0 : decode mLess_lessenColours.2.1 0 = .ok (.aload_n 0, 1) := by decide +kernel
theorem dLess_lessenColours_1 : decode mLess_lessenColours.2.1 1 = .ok (.getfield 7, 3) := by decide +kernel
theorem dLess_lessenColours_4 : decode mLess_lessenColours.2.1 4 = .ok (.iconst 2, 1) := by decide +kernel
theorem dLess_lessenColours_5 : decode mLess_lessenColours.2.1 5 = .ok (.if_icmp .ne 19, 3) := by decide +kernel
theorem dLess_lessenColours_8 : decode mLess_lessenColours.2.1 8 = .ok (.aload_n 0, 1) := by decide +kernel
theorem dLess_lessenColours_9 : decode mLess_lessenColours.2.1 9 = .ok (.invokestatic 44, 3) := by decide +kernel
theorem dLess_lessenColours_12 : decode mLess_lessenColours.2.1 12 = .ok (.ifCond .eq 12, 3) := by decide +kernel
theorem dLess_lessenColours_15 : decode mLess_lessenColours.2.1 15 = .ok (.aload_n 0, 1) := by decide +kernel
theorem dLess_lessenColours_16 : decode mLess_lessenColours.2.1 16 = .ok (.iconst 0, 1) := by decide +kernel
theorem dLess_lessenColours_17 : decode mLess_lessenColours.2.1 17 = .ok (.aload_n 0, 1) := by decide +kernel
theorem dLess_lessenColours_18 : decode mLess_lessenColours.2.1 18 = .ok (.getfield 13, 3) := by decide +kernel
theorem dLess_lessenColours_21 : decode mLess_lessenColours.2.1 21 = .ok (.invokevirtual 40, 3) := by decide +kernel
theorem dLess_lessenColours_24 : decode mLess_lessenColours.2.1 24 = .ok (.return_, 1) := by decide +kernel
theorem dLess_lessenGreyBits_0 : decode mLess_lessenGreyBits.2.1 0 = .ok (.iconst 1, 1) := by decide +kernel
theorem dLess_lessenGreyBits_1 : decode mLess_lessenGreyBits.2.1 1 = .ok (.istore_n 1, 1) := by decide +kernel
theorem dLess_lessenGreyBits_2 : decode mLess_lessenGreyBits.2.1 2 = .ok (.iload_n 1, 1) := by decide +kernel
theorem dLess_lessenGreyBits_3 : decode mLess_lessenGreyBits.2.1 3 = .ok (.aload_n 0, 1) := by decide +kernel
theorem dLess_lessenGreyBits_4 : decode mLess_lessenGreyBits.2.1 4 = .ok (.getfield 13, 3) := by decide +kernel
theorem dLess_lessenGreyBits_7 : decode mLess_lessenGreyBits.2.1 7 = .ok (.if_icmp .ge 39, 3) := by decide +kernel
theorem dLess_lessenGreyBits_10 : decode mLess_lessenGreyBits.2.1 10 = .ok (.aload_n 0, 1) := by decide +kernel
theorem dLess_lessenGreyBits_11 : decode mLess_lessenGreyBits.2.1 11 = .ok (.getfield 13, 3) := by decide +kernel
theorem dLess_lessenGreyBits_14 : decode mLess_lessenGreyBits.2.1 14 = .ok (.iload_n 1, 1) := by decide +kernel
theorem dLess_lessenGreyBits_15 : decode mLess_lessenGreyBits.2.1 15 = .ok (.invokestatic 47, 3) := by decide +kernel
theorem dLess_lessenGreyBits_18 : decode mLess_lessenGreyBits.2.1 18 = .ok (.istore_n 2, 1) := by decide +kernel
theorem dLess_lessenGreyBits_19 : decode mLess_lessenGreyBits.2.1 19 = .ok (.aload_n 0, 1) := by decide +kernel
theorem dLess_lessenGreyBits_20 : decode mLess_lessenGreyBits.2.1 20 = .ok (.iload_n 2, 1) := by decide +kernel
theorem dLess_lessenGreyBits_21 : decode mLess_lessenGreyBits.2.1 21 = .ok (.invokestatic 51, 3) := by decide +kernel
theorem dLess_lessenGreyBits_24 : decode mLess_lessenGreyBits.2.1 24 = .ok (.ifCond .eq 15, 3) := by decide +kernel
theorem dLess_lessenGreyBits_27 : decode mLess_lessenGreyBits.2.1 27 = .ok (.aload_n 0, 1) := by decide +kernel
theorem dLess_lessenGreyBits_28 : decode mLess_lessenGreyBits.2.1 28 = .ok (.iload_n 2, 1) := by decide +kernel
theorem dLess_lessenGreyBits_29 : decode mLess_lessenGreyBits.2.1 29 = .ok (.invokestatic 55, 3) := by decide +kernel
theorem dLess_lessenGreyBits_32 : decode mLess_lessenGreyBits.2.1 32 = .ok (.aload_n 0, 1) := by decide +kernel
theorem dLess_lessenGreyBits_33 : decode mLess_lessenGreyBits.2.1 33 = .ok (.iconst 0, 1) := by decide +kernel
theorem dLess_lessenGreyBits_34 : decode mLess_lessenGreyBits.2.1 34 = .ok (.iload_n 1, 1) := by decide +kernel
theorem dLess_lessenGreyBits_35 : decode mLess_lessenGreyBits.2.1 35 = .ok (.invokevirtual 40, 3) := by decide +kernel
theorem dLess_lessenGreyBits_38 : decode mLess_lessenGreyBits.2.1 38 = .ok (.return_, 1) := by decide +kernel
theorem dLess_lessenGreyBits_39 : decode mLess_lessenGreyBits.2.1 39 = .ok (.iconst 2, 1) := by decide +kernel
theorem dLess_lessenGreyBits_40 : decode mLess_lessenGreyBits.2.1 40 = .ok (.iload_n 1, 1) := by decide +kernel
theorem dLess_lessenGreyBits_41 : decode mLess_lessenGreyBits.2.1 41 = .ok (.imul, 1) := by decide +kernel
theorem dLess_lessenGreyBits_42 : decode mLess_lessenGreyBits.2.1 42 = .ok (.istore_n 1, 1) := by decide +kernel
theorem dLess_lessenGreyBits_43 : decode mLess_lessenGreyBits.2.1 43 = .ok (.goto (-41), 3) := by decide +kernel
theorem dLess_lessenGreyBits_46 : decode mLess_lessenGreyBits.2.1 46 = .ok (.return_, 1) := by decide +kernel
theorem dLess_stepOf_0 : decode mLess_stepOf.2.1 0 = .ok (.iload_n 1, 1) := by decide +kernel
theorem dLess_stepOf_1 : decode mLess_stepOf.2.1 1 = .ok (.invokestatic 59, 3) := by decide +kernel
theorem dLess_stepOf_4 : decode mLess_stepOf.2.1 4 = .ok (.istore_n 2, 1) := by decide +kernel
theorem dLess_stepOf_5 : decode mLess_stepOf.2.1 5 = .ok (.iload_n 2, 1) := by decide +kernel
theorem dLess_stepOf_6 : decode mLess_stepOf.2.1 6 = .ok (.ifCond .le 12, 3) := by decide +kernel
theorem dLess_stepOf_9 : decode mLess_stepOf.2.1 9 = .ok (.iload_n 0, 1) := by decide +kernel
theorem dLess_stepOf_10 : decode mLess_stepOf.2.1 10 = .ok (.invokestatic 59, 3) := by decide +kernel
theorem dLess_stepOf_13 : decode mLess_stepOf.2.1 13 = .ok (.iload_n 2, 1) := by decide +kernel
theorem dLess_stepOf_14 : decode mLess_stepOf.2.1 14 = .ok (.idiv, 1) := by decide +kernel
theorem dLess_stepOf_15 : decode mLess_stepOf.2.1 15 = .ok (.goto 4, 3) := by decide +kernel
theorem dLess_stepOf_18 : decode mLess_stepOf.2.1 18 = .ok (.iconst 0, 1) := by decide +kernel
theorem dLess_stepOf_19 : decode mLess_stepOf.2.1 19 = .ok (.ireturn, 1) := by decide +kernel
theorem dLess_lessenPaletteBits_0 : decode mLess_lessenPaletteBits.2.1 0 = .ok (.iconst 1, 1) := by decide +kernel
theorem dLess_lessenPaletteBits_1 : decode mLess_lessenPaletteBits.2.1 1 = .ok (.istore_n 1, 1) := by decide +kernel
theorem dLess_lessenPaletteBits_2 : decode mLess_lessenPaletteBits.2.1 2 = .ok (.iload_n 1, 1) := by decide +kernel
theorem dLess_lessenPaletteBits_3 : decode mLess_lessenPaletteBits.2.1 3 = .ok (.aload_n 0, 1) := by decide +kernel
theorem dLess_lessenPaletteBits_4 : decode mLess_lessenPaletteBits.2.1 4 = .ok (.getfield 13, 3) := by decide +kernel
theorem dLess_lessenPaletteBits_7 : decode mLess_lessenPaletteBits.2.1 7 = .ok (.if_icmp .ge 31, 3) := by decide +kernel
theorem dLess_lessenPaletteBits_10 : decode mLess_lessenPaletteBits.2.1 10 = .ok (.aload_n 0, 1) := by decide +kernel
theorem dLess_lessenPaletteBits_11 : decode mLess_lessenPaletteBits.2.1 11 = .ok (.getfield 63, 3) := by decide +kernel
theorem dLess_lessenPaletteBits_14 : decode mLess_lessenPaletteBits.2.1 14 = .ok (.getfield 67, 3) := by decide +kernel
theorem dLess_lessenPaletteBits_17 : decode mLess_lessenPaletteBits.2.1 17 = .ok (.iload_n 1, 1) := by decide +kernel
theorem dLess_lessenPaletteBits_18 : decode mLess_lessenPaletteBits.2.1 18 = .ok (.invokestatic 72, 3) := by decide +kernel
theorem dLess_lessenPaletteBits_21 : decode mLess_lessenPaletteBits.2.1 21 = .ok (.if_icmp .gt 10, 3) := by decide +kernel
theorem dLess_lessenPaletteBits_24 : decode mLess_lessenPaletteBits.2.1 24 = .ok (.aload_n 0, 1) := by decide +kernel
theorem dLess_lessenPaletteBits_25 : decode mLess_lessenPaletteBits.2.1 25 = .ok (.iconst 3, 1) := by decide +kernel
theorem dLess_lessenPaletteBits_26 : decode mLess_lessenPaletteBits.2.1 26 = .ok (.iload_n 1, 1) := by decide +kernel
theorem dLess_lessenPaletteBits_27 : decode mLess_lessenPaletteBits.2.1 27 = .ok (.invokevirtual 40, 3) := by decide +kernel
theorem dLess_lessenPaletteBits_30 : decode mLess_lessenPaletteBits.2.1 30 = .ok (.return_, 1) := by decide +kernel
theorem dLess_lessenPaletteBits_31 : decode mLess_lessenPaletteBits.2.1 31 = .ok (.iconst 2, 1) := by decide +kernel
theorem dLess_lessenPaletteBits_32 : decode mLess_lessenPaletteBits.2.1 32 = .ok (.iload_n 1, 1) := by decide +kernel
theorem dLess_lessenPaletteBits_33 : decode mLess_lessenPaletteBits.2.1 33 = .ok (.imul, 1) := by decide +kernel
theorem dLess_lessenPaletteBits_34 : decode mLess_lessenPaletteBits.2.1 34 = .ok (.istore_n 1, 1) := by decide +kernel
theorem dLess_lessenPaletteBits_35 : decode mLess_lessenPaletteBits.2.1 35 = .ok (.goto (-33), 3) := by decide +kernel
theorem dLess_lessenPaletteBits_38 : decode mLess_lessenPaletteBits.2.1 38 = .ok (.return_, 1) := by decide +kernel
theorem dLess_isOpaque_0 : decode mLess_isOpaque.2.1 0 = .ok (.aload_n 0, 1) := by decide +kernel
theorem dLess_isOpaque_1 : decode mLess_isOpaque.2.1 1 = .ok (.getfield 75, 3) := by decide +kernel
theorem dLess_isOpaque_4 : decode mLess_isOpaque.2.1 4 = .ok (.iconst 1, 1) := by decide +kernel
theorem dLess_isOpaque_5 : decode mLess_isOpaque.2.1 5 = .ok (.isub, 1) := by decide +kernel
theorem dLess_isOpaque_6 : decode mLess_isOpaque.2.1 6 = .ok (.istore_n 1, 1) := by decide +kernel
theorem dLess_isOpaque_7 : decode mLess_isOpaque.2.1 7 = .ok (.iconst 0, 1) := by decide +kernel
theorem dLess_isOpaque_8 : decode mLess_isOpaque.2.1 8 = .ok (.istore_n 2, 1) := by decide +kernel
theorem dLess_isOpaque_9 : decode mLess_isOpaque.2.1 9 = .ok (.iload_n 2, 1) := by decide +kernel
theorem dLess_isOpaque_10 : decode mLess_isOpaque.2.1 10 = .ok (.aload_n 0, 1) := by decide +kernel
theorem dLess_isOpaque_11 : decode mLess_isOpaque.2.1 11 = .ok (.getfield 78, 3) := by decide +kernel
theorem dLess_isOpaque_14 : decode mLess_isOpaque.2.1 14 = .ok (.if_icmp .ge 40, 3) := by decide +kernel
theorem dLess_isOpaque_17 : decode mLess_isOpaque.2.1 17 = .ok (.iconst 0, 1) := by decide +kernel
theorem dLess_isOpaque_18 : decode mLess_isOpaque.2.1 18 = .ok (.istore_n 3, 1) := by decide +kernel
theorem dLess_isOpaque_19 : decode mLess_isOpaque.2.1 19 = .ok (.iload_n 3, 1) := by decide +kernel
theorem dLess_isOpaque_20 : decode mLess_isOpaque.2.1 20 = .ok (.aload_n 0, 1) := by decide +kernel
theorem dLess_isOpaque_21 : decode mLess_isOpaque.2.1 21 = .ok (.getfield 81, 3) := by decide +kernel
theorem dLess_isOpaque_24 : decode mLess_isOpaque.2.1 24 = .ok (.if_icmp .ge 24, 3) := by decide +kernel
theorem dLess_isOpaque_27 : decode mLess_isOpaque.2.1 27 = .ok (.aload_n 0, 1) := by decide +kernel
theorem dLess_isOpaque_28 : decode mLess_isOpaque.2.1 28 = .ok (.iload_n 3, 1) := by decide +kernel
theorem dLess_isOpaque_29 : decode mLess_isOpaque.2.1 29 = .ok (.iload_n 2, 1) := by decide +kernel
theorem dLess_isOpaque_30 : decode mLess_isOpaque.2.1 30 = .ok (.iload_n 1, 1) := by decide +kernel
theorem dLess_isOpaque_31 : decode mLess_isOpaque.2.1 31 = .ok (.invokevirtual 84, 3) := by decide +kernel
theorem dLess_isOpaque_34 : decode mLess_isOpaque.2.1 34 = .ok (.sipush 255, 3) := by decide +kernel
theorem dLess_isOpaque_37 : decode mLess_isOpaque.2.1 37 = .ok (.if_icmp .eq 5, 3) := by decide +kernel
theorem dLess_isOpaque_40 : decode mLess_isOpaque.2.1 40 = .ok (.iconst 0, 1) := by decide +kernel
theorem dLess_isOpaque_41 : decode mLess_isOpaque.2.1 41 = .ok (.ireturn, 1) := by decide +kernel
theorem dLess_isOpaque_42 : decode mLess_isOpaque.2.1 42 = .ok (.iinc 3 1, 3) := by decide +kernel
theorem dLess_isOpaque_45 : decode mLess_isOpaque.2.1 45 = .ok (.goto (-26), 3) := by decide +kernel
theorem dLess_isOpaque_48 : decode mLess_isOpaque.2.1 48 = .ok (.iinc 2 1, 3) := by decide +kernel
theorem dLess_isOpaque_51 : decode mLess_isOpaque.2.1 51 = .ok (.goto (-42), 3) := by decide +kernel
theorem dLess_isOpaque_54 : decode mLess_isOpaque.2.1 54 = .ok (.iconst 1, 1) := by decide +kernel
theorem dLess_isOpaque_55 : decode mLess_isOpaque.2.1 55 = .ok (.ireturn, 1) := by decide +kernel
theorem dLess_isGreyEverywhere_0 : decode mLess_isGreyEverywhere.2.1 0 = .ok (.iconst 0, 1) := by decide +kernel
theorem dLess_isGreyEverywhere_1 : decode mLess_isGreyEverywhere.2.1 1 = .ok (.istore_n 1, 1) := by decide +kernel
theorem dLess_isGreyEverywhere_2 : decode mLess_isGreyEverywhere.2.1 2 = .ok (.iload_n 1, 1) := by decide +kernel
theorem dLess_isGreyEverywhere_3 : decode mLess_isGreyEverywhere.2.1 3 = .ok (.aload_n 0, 1) := by decide +kernel
theorem dLess_isGreyEverywhere_4 : decode mLess_isGreyEverywhere.2.1 4 = .ok (.getfield 78, 3) := by decide +kernel
theorem dLess_isGreyEverywhere_7 : decode mLess_isGreyEverywhere.2.1 7 = .ok (.if_icmp .ge 57, 3) := by decide +kernel
theorem dLess_isGreyEverywhere_10 : decode mLess_isGreyEverywhere.2.1 10 = .ok (.iconst 0, 1) := by decide +kernel
theorem dLess_isGreyEverywhere_11 : decode mLess_isGreyEverywhere.2.1 11 = .ok (.istore_n 2, 1) := by decide +kernel
theorem dLess_isGreyEverywhere_12 : decode mLess_isGreyEverywhere.2.1 12 = .ok (.iload_n 2, 1) := by decide +kernel
theorem dLess_isGreyEverywhere_13 : decode mLess_isGreyEverywhere.2.1 13 = .ok (.aload_n 0, 1) := by decide +kernel
theorem dLess_isGreyEverywhere_14 : decode mLess_isGreyEverywhere.2.1 14 = .ok (.getfield 81, 3) := by decide +kernel
theorem dLess_isGreyEverywhere_17 : decode mLess_isGreyEverywhere.2.1 17 = .ok (.if_icmp .ge 41, 3) := by decide +kernel
theorem dLess_isGreyEverywhere_20 : decode mLess_isGreyEverywhere.2.1 20 = .ok (.aload_n 0, 1) := by decide +kernel
theorem dLess_isGreyEverywhere_21 : decode mLess_isGreyEverywhere.2.1 21 = .ok (.iload_n 2, 1) := by decide +kernel
theorem dLess_isGreyEverywhere_22 : decode mLess_isGreyEverywhere.2.1 22 = .ok (.iload_n 1, 1) := by decide +kernel
theorem dLess_isGreyEverywhere_23 : decode mLess_isGreyEverywhere.2.1 23 = .ok (.iconst 0, 1) := by decide +kernel
theorem dLess_isGreyEverywhere_24 : decode mLess_isGreyEverywhere.2.1 24 = .ok (.invokevirtual 84, 3) := by decide +kernel
theorem dLess_isGreyEverywhere_27 : decode mLess_isGreyEverywhere.2.1 27 = .ok (.istore_n 3, 1) := by decide +kernel
theorem dLess_isGreyEverywhere_28 : decode mLess_isGreyEverywhere.2.1 28 = .ok (.aload_n 0, 1) := by decide +kernel
theorem dLess_isGreyEverywhere_29 : decode mLess_isGreyEverywhere.2.1 29 = .ok (.iload_n 2, 1) := by decide +kernel
theorem dLess_isGreyEverywhere_30 : decode mLess_isGreyEverywhere.2.1 30 = .ok (.iload_n 1, 1) := by decide +kernel
theorem dLess_isGreyEverywhere_31 : decode mLess_isGreyEverywhere.2.1 31 = .ok (.iconst 1, 1) := by decide +kernel
theorem dLess_isGreyEverywhere_32 : decode mLess_isGreyEverywhere.2.1 32 = .ok (.invokevirtual 84, 3) := by decide +kernel
theorem dLess_isGreyEverywhere_35 : decode mLess_isGreyEverywhere.2.1 35 = .ok (.iload_n 3, 1) := by decide +kernel
theorem dLess_isGreyEverywhere_36 : decode mLess_isGreyEverywhere.2.1 36 = .ok (.if_icmp .ne 14, 3) := by decide +kernel
theorem dLess_isGreyEverywhere_39 : decode mLess_isGreyEverywhere.2.1 39 = .ok (.aload_n 0, 1) := by decide +kernel
theorem dLess_isGreyEverywhere_40 : decode mLess_isGreyEverywhere.2.1 40 = .ok (.iload_n 2, 1) := by decide +kernel
theorem dLess_isGreyEverywhere_41 : decode mLess_isGreyEverywhere.2.1 41 = .ok (.iload_n 1, 1) := by decide +kernel
theorem dLess_isGreyEverywhere_42 : decode mLess_isGreyEverywhere.2.1 42 = .ok (.iconst 2, 1) := by decide +kernel
theorem dLess_isGreyEverywhere_43 : decode mLess_isGreyEverywhere.2.1 43 = .ok (.invokevirtual 84, 3) := by decide +kernel
theorem dLess_isGreyEverywhere_46 : decode mLess_isGreyEverywhere.2.1 46 = .ok (.iload_n 3, 1) := by decide +kernel
theorem dLess_isGreyEverywhere_47 : decode mLess_isGreyEverywhere.2.1 47 = .ok (.if_icmp .eq 5, 3) := by decide +kernel
theorem dLess_isGreyEverywhere_50 : decode mLess_isGreyEverywhere.2.1 50 = .ok (.iconst 0, 1) := by decide +kernel
theorem dLess_isGreyEverywhere_51 : decode mLess_isGreyEverywhere.2.1 51 = .ok (.ireturn, 1) := by decide +kernel
theorem dLess_isGreyEverywhere_52 : decode mLess_isGreyEverywhere.2.1 52 = .ok (.iinc 2 1, 3) := by decide +kernel
theorem dLess_isGreyEverywhere_55 : decode mLess_isGreyEverywhere.2.1 55 = .ok (.goto (-43), 3) := by decide +kernel
theorem dLess_isGreyEverywhere_58 : decode mLess_isGreyEverywhere.2.1 58 = .ok (.iinc 1 1, 3) := by decide +kernel
theorem dLess_isGreyEverywhere_61 : decode mLess_isGreyEverywhere.2.1 61 = .ok (.goto (-59), 3) := by decide +kernel
theorem dLess_isGreyEverywhere_64 : decode mLess_isGreyEverywhere.2.1 64 = .ok (.iconst 1, 1) := by decide +kernel
theorem dLess_isGreyEverywhere_65 : decode mLess_isGreyEverywhere.2.1 65 = .ok (.ireturn, 1) := by decide +kernel
theorem dLess_allAreTimes_0 : decode mLess_allAreTimes.2.1 0 = .ok (.iconst 0, 1) := by decide +kernel
theorem dLess_allAreTimes_1 : decode mLess_allAreTimes.2.1 1 = .ok (.istore_n 2, 1) := by decide +kernel
theorem dLess_allAreTimes_2 : decode mLess_allAreTimes.2.1 2 = .ok (.iload_n 2, 1) := by decide +kernel
theorem dLess_allAreTimes_3 : decode mLess_allAreTimes.2.1 3 = .ok (.aload_n 0, 1) := by decide +kernel
theorem dLess_allAreTimes_4 : decode mLess_allAreTimes.2.1 4 = .ok (.getfield 78, 3) := by decide +kernel
theorem dLess_allAreTimes_7 : decode mLess_allAreTimes.2.1 7 = .ok (.if_icmp .ge 44, 3) := by decide +kernel
theorem dLess_allAreTimes_10 : decode mLess_allAreTimes.2.1 10 = .ok (.iconst 0, 1) := by decide +kernel
theorem dLess_allAreTimes_11 : decode mLess_allAreTimes.2.1 11 = .ok (.istore_n 3, 1) := by decide +kernel
theorem dLess_allAreTimes_12 : decode mLess_allAreTimes.2.1 12 = .ok (.iload_n 3, 1) := by decide +kernel
theorem dLess_allAreTimes_13 : decode mLess_allAreTimes.2.1 13 = .ok (.aload_n 0, 1) := by decide +kernel
theorem dLess_allAreTimes_14 : decode mLess_allAreTimes.2.1 14 = .ok (.getfield 81, 3) := by decide +kernel
theorem dLess_allAreTimes_17 : decode mLess_allAreTimes.2.1 17 = .ok (.if_icmp .ge 28, 3) := by decide +kernel
theorem dLess_allAreTimes_20 : decode mLess_allAreTimes.2.1 20 = .ok (.iload_n 1, 1) := by decide +kernel
theorem dLess_allAreTimes_21 : decode mLess_allAreTimes.2.1 21 = .ok (.iconst 1, 1) := by decide +kernel
theorem dLess_allAreTimes_22 : decode mLess_allAreTimes.2.1 22 = .ok (.if_icmp .lt 15, 3) := by decide +kernel
theorem dLess_allAreTimes_25 : decode mLess_allAreTimes.2.1 25 = .ok (.aload_n 0, 1) := by decide +kernel
theorem dLess_allAreTimes_26 : decode mLess_allAreTimes.2.1 26 = .ok (.iload_n 3, 1) := by decide +kernel
theorem dLess_allAreTimes_27 : decode mLess_allAreTimes.2.1 27 = .ok (.iload_n 2, 1) := by decide +kernel
theorem dLess_allAreTimes_28 : decode mLess_allAreTimes.2.1 28 = .ok (.iconst 0, 1) := by decide +kernel
theorem dLess_allAreTimes_29 : decode mLess_allAreTimes.2.1 29 = .ok (.invokevirtual 84, 3) := by decide +kernel
theorem dLess_allAreTimes_32 : decode mLess_allAreTimes.2.1 32 = .ok (.iload_n 1, 1) := by decide +kernel
theorem dLess_allAreTimes_33 : decode mLess_allAreTimes.2.1 33 = .ok (.irem, 1) := by decide +kernel
theorem dLess_allAreTimes_34 : decode mLess_allAreTimes.2.1 34 = .ok (.ifCond .eq 5, 3) := by decide +kernel
theorem dLess_allAreTimes_37 : decode mLess_allAreTimes.2.1 37 = .ok (.iconst 0, 1) := by decide +kernel
theorem dLess_allAreTimes_38 : decode mLess_allAreTimes.2.1 38 = .ok (.ireturn, 1) := by decide +kernel
theorem dLess_allAreTimes_39 : decode mLess_allAreTimes.2.1 39 = .ok (.iinc 3 1, 3) := by decide +kernel
theorem dLess_allAreTimes_42 : decode mLess_allAreTimes.2.1 42 = .ok (.goto (-30), 3) := by decide +kernel
theorem dLess_allAreTimes_45 : decode mLess_allAreTimes.2.1 45 = .ok (.iinc 2 1, 3) := by decide +kernel
theorem dLess_allAreTimes_48 : decode mLess_allAreTimes.2.1 48 = .ok (.goto (-46), 3) := by decide +kernel
theorem dLess_allAreTimes_51 : decode mLess_allAreTimes.2.1 51 = .ok (.iconst 1, 1) := by decide +kernel
theorem dLess_allAreTimes_52 : decode mLess_allAreTimes.2.1 52 = .ok (.ireturn, 1) := by decide +kernel
theorem dLess_divideAll_0 : decode mLess_divideAll.2.1 0 = .ok (.iconst 0, 1) := by decide +kernel
theorem dLess_divideAll_1 : decode mLess_divideAll.2.1 1 = .ok (.istore_n 2, 1) := by decide +kernel
theorem dLess_divideAll_2 : decode mLess_divideAll.2.1 2 = .ok (.iload_n 2, 1) := by decide +kernel
theorem dLess_divideAll_3 : decode mLess_divideAll.2.1 3 = .ok (.aload_n 0, 1) := by decide +kernel
theorem dLess_divideAll_4 : decode mLess_divideAll.2.1 4 = .ok (.getfield 78, 3) := by decide +kernel
theorem dLess_divideAll_7 : decode mLess_divideAll.2.1 7 = .ok (.if_icmp .ge 45, 3) := by decide +kernel
theorem dLess_divideAll_10 : decode mLess_divideAll.2.1 10 = .ok (.iconst 0, 1) := by decide +kernel
theorem dLess_divideAll_11 : decode mLess_divideAll.2.1 11 = .ok (.istore_n 3, 1) := by decide +kernel
theorem dLess_divideAll_12 : decode mLess_divideAll.2.1 12 = .ok (.iload_n 3, 1) := by decide +kernel
theorem dLess_divideAll_13 : decode mLess_divideAll.2.1 13 = .ok (.aload_n 0, 1) := by decide +kernel
theorem dLess_divideAll_14 : decode mLess_divideAll.2.1 14 = .ok (.getfield 81, 3) := by decide +kernel
theorem dLess_divideAll_17 : decode mLess_divideAll.2.1 17 = .ok (.if_icmp .ge 29, 3) := by decide +kernel
theorem dLess_divideAll_20 : decode mLess_divideAll.2.1 20 = .ok (.iload_n 1, 1) := by decide +kernel
theorem dLess_divideAll_21 : decode mLess_divideAll.2.1 21 = .ok (.ifCond .le 25, 3) := by decide +kernel
theorem dLess_divideAll_24 : decode mLess_divideAll.2.1 24 = .ok (.aload_n 0, 1) := by decide +kernel
theorem dLess_divideAll_25 : decode mLess_divideAll.2.1 25 = .ok (.iload_n 3, 1) := by decide +kernel
theorem dLess_divideAll_26 : decode mLess_divideAll.2.1 26 = .ok (.iload_n 2, 1) := by decide +kernel
theorem dLess_divideAll_27 : decode mLess_divideAll.2.1 27 = .ok (.iconst 0, 1) := by decide +kernel
theorem dLess_divideAll_28 : decode mLess_divideAll.2.1 28 = .ok (.aload_n 0, 1) := by decide +kernel
theorem dLess_divideAll_29 : decode mLess_divideAll.2.1 29 = .ok (.iload_n 3, 1) := by decide +kernel
theorem dLess_divideAll_30 : decode mLess_divideAll.2.1 30 = .ok (.iload_n 2, 1) := by decide +kernel
theorem dLess_divideAll_31 : decode mLess_divideAll.2.1 31 = .ok (.iconst 0, 1) := by decide +kernel
theorem dLess_divideAll_32 : decode mLess_divideAll.2.1 32 = .ok (.invokevirtual 84, 3) := by decide +kernel
theorem dLess_divideAll_35 : decode mLess_divideAll.2.1 35 = .ok (.iload_n 1, 1) := by decide +kernel
theorem dLess_divideAll_36 : decode mLess_divideAll.2.1 36 = .ok (.idiv, 1) := by decide +kernel
theorem dLess_divideAll_37 : decode mLess_divideAll.2.1 37 = .ok (.invokevirtual 88, 3) := by decide +kernel
theorem dLess_divideAll_40 : decode mLess_divideAll.2.1 40 = .ok (.iinc 3 1, 3) := by decide +kernel
theorem dLess_divideAll_43 : decode mLess_divideAll.2.1 43 = .ok (.goto (-31), 3) := by decide +kernel
theorem dLess_divideAll_46 : decode mLess_divideAll.2.1 46 = .ok (.iinc 2 1, 3) := by decide +kernel
theorem dLess_divideAll_49 : decode mLess_divideAll.2.1 49 = .ok (.goto (-47), 3) := by decide +kernel
theorem dLess_divideAll_52 : decode mLess_divideAll.2.1 52 = .ok (.return_, 1) := by decide +kernel
theorem dLaw_head_0 : decode mLaw_head.2.1 0 = .ok (.aload_n 0, 1) := by decide +kernel
theorem dLaw_head_1 : decode mLaw_head.2.1 1 = .ok (.iload_n 1, 1) := by decide +kernel
theorem dLaw_head_2 : decode mLaw_head.2.1 2 = .ok (.iload_n 2, 1) := by decide +kernel
theorem dLaw_head_3 : decode mLaw_head.2.1 3 = .ok (.iload_n 3, 1) := by decide +kernel
theorem dLaw_head_4 : decode mLaw_head.2.1 4 = .ok (.iload 4, 2) := by decide +kernel
theorem dLaw_head_6 : decode mLaw_head.2.1 6 = .ok (.invokevirtual 7, 3) := by decide +kernel
theorem dLaw_head_9 : decode mLaw_head.2.1 9 = .ok (.goto 7, 3) := by decide +kernel
theorem dLaw_head_12 : decode mLaw_head.2.1 12 = .ok (.astore 5, 2) := by decide +kernel
theorem dLaw_head_14 : decode mLaw_head.2.1 14 = .ok (.iconst 1, 1) := by decide +kernel
theorem dLaw_head_15 : decode mLaw_head.2.1 15 = .ok (.ireturn, 1) := by decide +kernel
theorem dLaw_head_16 : decode mLaw_head.2.1 16 = .ok (.iconst 0, 1) := by decide +kernel
theorem dLaw_head_17 : decode mLaw_head.2.1 17 = .ok (.ireturn, 1) := by decide +kernel
theorem dLaw_colour_0 : decode mLaw_colour.2.1 0 = .ok (.aload 5, 2) := by decide +kernel
theorem dLaw_colour_2 : decode mLaw_colour.2.1 2 = .ok (.iconst 0, 1) := by decide +kernel
theorem dLaw_colour_3 : decode mLaw_colour.2.1 3 = .ok (.aload_n 0, 1) := by decide +kernel
theorem dLaw_colour_4 : decode mLaw_colour.2.1 4 = .ok (.iload_n 1, 1) := by decide +kernel
theorem dLaw_colour_5 : decode mLaw_colour.2.1 5 = .ok (.iload_n 2, 1) := by decide +kernel
theorem dLaw_colour_6 : decode mLaw_colour.2.1 6 = .ok (.iload_n 3, 1) := by decide +kernel
theorem dLaw_colour_7 : decode mLaw_colour.2.1 7 = .ok (.iload 4, 2) := by decide +kernel
theorem dLaw_colour_9 : decode mLaw_colour.2.1 9 = .ok (.invokevirtual 15, 3) := by decide +kernel
theorem dLaw_colour_12 : decode mLaw_colour.2.1 12 = .ok (.i2l, 1) := by decide +kernel
theorem dLaw_colour_13 : decode mLaw_colour.2.1 13 = .ok (.lastore, 1) := by decide +kernel
theorem dLaw_colour_14 : decode mLaw_colour.2.1 14 = .ok (.goto 15, 3) := by decide +kernel
theorem dLaw_colour_17 : decode mLaw_colour.2.1 17 = .ok (.astore 6, 2) := by decide +kernel
theorem dLaw_colour_19 : decode mLaw_colour.2.1 19 = .ok (.iconst 1, 1) := by decide +kernel
theorem dLaw_colour_20 : decode mLaw_colour.2.1 20 = .ok (.ireturn, 1) := by decide +kernel
theorem dLaw_colour_21 : decode mLaw_colour.2.1 21 = .ok (.astore 6, 2) := by decide +kernel
theorem dLaw_colour_23 : decode mLaw_colour.2.1 23 = .ok (.iconst 2, 1) := by decide +kernel
theorem dLaw_colour_24 : decode mLaw_colour.2.1 24 = .ok (.ireturn, 1) := by decide +kernel
theorem dLaw_colour_25 : decode mLaw_colour.2.1 25 = .ok (.astore 6, 2) := by decide +kernel
theorem dLaw_colour_27 : decode mLaw_colour.2.1 27 = .ok (.iconst 3, 1) := by decide +kernel
theorem dLaw_colour_28 : decode mLaw_colour.2.1 28 = .ok (.ireturn, 1) := by decide +kernel
theorem dLaw_colour_29 : decode mLaw_colour.2.1 29 = .ok (.iconst 0, 1) := by decide +kernel
theorem dLaw_colour_30 : decode mLaw_colour.2.1 30 = .ok (.ireturn, 1) := by decide +kernel
theorem dLaw_put_0 : decode mLaw_put.2.1 0 = .ok (.aload 5, 2) := by decide +kernel
theorem dLaw_put_2 : decode mLaw_put.2.1 2 = .ok (.iconst 0, 1) := by decide +kernel
theorem dLaw_put_3 : decode mLaw_put.2.1 3 = .ok (.aload_n 0, 1) := by decide +kernel
theorem dLaw_put_4 : decode mLaw_put.2.1 4 = .ok (.iload_n 1, 1) := by decide +kernel
theorem dLaw_put_5 : decode mLaw_put.2.1 5 = .ok (.iload_n 2, 1) := by decide +kernel
theorem dLaw_put_6 : decode mLaw_put.2.1 6 = .ok (.iload_n 3, 1) := by decide +kernel
theorem dLaw_put_7 : decode mLaw_put.2.1 7 = .ok (.iload 4, 2) := by decide +kernel
theorem dLaw_put_9 : decode mLaw_put.2.1 9 = .ok (.invokevirtual 23, 3) := by decide +kernel
theorem dLaw_put_12 : decode mLaw_put.2.1 12 = .ok (.i2l, 1) := by decide +kernel
theorem dLaw_put_13 : decode mLaw_put.2.1 13 = .ok (.lastore, 1) := by decide +kernel
theorem dLaw_put_14 : decode mLaw_put.2.1 14 = .ok (.goto 15, 3) := by decide +kernel
theorem dLaw_put_17 : decode mLaw_put.2.1 17 = .ok (.astore 6, 2) := by decide +kernel
theorem dLaw_put_19 : decode mLaw_put.2.1 19 = .ok (.iconst 1, 1) := by decide +kernel
theorem dLaw_put_20 : decode mLaw_put.2.1 20 = .ok (.ireturn, 1) := by decide +kernel
theorem dLaw_put_21 : decode mLaw_put.2.1 21 = .ok (.astore 6, 2) := by decide +kernel
theorem dLaw_put_23 : decode mLaw_put.2.1 23 = .ok (.iconst 2, 1) := by decide +kernel
theorem dLaw_put_24 : decode mLaw_put.2.1 24 = .ok (.ireturn, 1) := by decide +kernel
theorem dLaw_put_25 : decode mLaw_put.2.1 25 = .ok (.astore 6, 2) := by decide +kernel
theorem dLaw_put_27 : decode mLaw_put.2.1 27 = .ok (.iconst 3, 1) := by decide +kernel
theorem dLaw_put_28 : decode mLaw_put.2.1 28 = .ok (.ireturn, 1) := by decide +kernel
theorem dLaw_put_29 : decode mLaw_put.2.1 29 = .ok (.iconst 0, 1) := by decide +kernel
theorem dLaw_put_30 : decode mLaw_put.2.1 30 = .ok (.ireturn, 1) := by decide +kernel
theorem dLaw_tag_0 : decode mLaw_tag.2.1 0 = .ok (.aload_n 3, 1) := by decide +kernel
theorem dLaw_tag_1 : decode mLaw_tag.2.1 1 = .ok (.iconst 0, 1) := by decide +kernel
theorem dLaw_tag_2 : decode mLaw_tag.2.1 2 = .ok (.aload_n 0, 1) := by decide +kernel
theorem dLaw_tag_3 : decode mLaw_tag.2.1 3 = .ok (.iload_n 1, 1) := by decide +kernel
theorem dLaw_tag_4 : decode mLaw_tag.2.1 4 = .ok (.iload_n 2, 1) := by decide +kernel
theorem dLaw_tag_5 : decode mLaw_tag.2.1 5 = .ok (.invokevirtual 28, 3) := by decide +kernel
theorem dLaw_tag_8 : decode mLaw_tag.2.1 8 = .ok (.i2l, 1) := by decide +kernel
theorem dLaw_tag_9 : decode mLaw_tag.2.1 9 = .ok (.lastore, 1) := by decide +kernel
theorem dLaw_tag_10 : decode mLaw_tag.2.1 10 = .ok (.goto 11, 3) := by decide +kernel
theorem dLaw_tag_13 : decode mLaw_tag.2.1 13 = .ok (.astore 4, 2) := by decide +kernel
theorem dLaw_tag_15 : decode mLaw_tag.2.1 15 = .ok (.iconst 1, 1) := by decide +kernel
theorem dLaw_tag_16 : decode mLaw_tag.2.1 16 = .ok (.ireturn, 1) := by decide +kernel
theorem dLaw_tag_17 : decode mLaw_tag.2.1 17 = .ok (.astore 4, 2) := by decide +kernel
theorem dLaw_tag_19 : decode mLaw_tag.2.1 19 = .ok (.iconst 2, 1) := by decide +kernel
theorem dLaw_tag_20 : decode mLaw_tag.2.1 20 = .ok (.ireturn, 1) := by decide +kernel
theorem dLaw_tag_21 : decode mLaw_tag.2.1 21 = .ok (.iconst 0, 1) := by decide +kernel
theorem dLaw_tag_22 : decode mLaw_tag.2.1 22 = .ok (.ireturn, 1) := by decide +kernel
theorem dLaw_extra_0 : decode mLaw_extra.2.1 0 = .ok (.aload_n 2, 1) := by decide +kernel
theorem dLaw_extra_1 : decode mLaw_extra.2.1 1 = .ok (.iconst 0, 1) := by decide +kernel
theorem dLaw_extra_2 : decode mLaw_extra.2.1 2 = .ok (.aload_n 0, 1) := by decide +kernel
theorem dLaw_extra_3 : decode mLaw_extra.2.1 3 = .ok (.iload_n 1, 1) := by decide +kernel
theorem dLaw_extra_4 : decode mLaw_extra.2.1 4 = .ok (.invokevirtual 32, 3) := by decide +kernel
theorem dLaw_extra_7 : decode mLaw_extra.2.1 7 = .ok (.i2l, 1) := by decide +kernel
theorem dLaw_extra_8 : decode mLaw_extra.2.1 8 = .ok (.lastore, 1) := by decide +kernel
theorem dLaw_extra_9 : decode mLaw_extra.2.1 9 = .ok (.goto 12, 3) := by decide +kernel
theorem dLaw_extra_12 : decode mLaw_extra.2.1 12 = .ok (.astore_n 3, 1) := by decide +kernel
theorem dLaw_extra_13 : decode mLaw_extra.2.1 13 = .ok (.iconst 1, 1) := by decide +kernel
theorem dLaw_extra_14 : decode mLaw_extra.2.1 14 = .ok (.ireturn, 1) := by decide +kernel
theorem dLaw_extra_15 : decode mLaw_extra.2.1 15 = .ok (.astore_n 3, 1) := by decide +kernel
theorem dLaw_extra_16 : decode mLaw_extra.2.1 16 = .ok (.iconst 2, 1) := by decide +kernel
theorem dLaw_extra_17 : decode mLaw_extra.2.1 17 = .ok (.ireturn, 1) := by decide +kernel
theorem dLaw_extra_18 : decode mLaw_extra.2.1 18 = .ok (.astore_n 3, 1) := by decide +kernel
theorem dLaw_extra_19 : decode mLaw_extra.2.1 19 = .ok (.iconst 3, 1) := by decide +kernel
theorem dLaw_extra_20 : decode mLaw_extra.2.1 20 = .ok (.ireturn, 1) := by decide +kernel
theorem dLaw_extra_21 : decode mLaw_extra.2.1 21 = .ok (.iconst 0, 1) := by decide +kernel
theorem dLaw_extra_22 : decode mLaw_extra.2.1 22 = .ok (.ireturn, 1) := by decide +kernel
theorem dLaw_byteOf_0 : decode mLaw_byteOf.2.1 0 = .ok (.aload_n 3, 1) := by decide +kernel
theorem dLaw_byteOf_1 : decode mLaw_byteOf.2.1 1 = .ok (.iconst 0, 1) := by decide +kernel
theorem dLaw_byteOf_2 : decode mLaw_byteOf.2.1 2 = .ok (.aload_n 0, 1) := by decide +kernel
theorem dLaw_byteOf_3 : decode mLaw_byteOf.2.1 3 = .ok (.iload_n 1, 1) := by decide +kernel
theorem dLaw_byteOf_4 : decode mLaw_byteOf.2.1 4 = .ok (.iload_n 2, 1) := by decide +kernel
theorem dLaw_byteOf_5 : decode mLaw_byteOf.2.1 5 = .ok (.invokevirtual 36, 3) := by decide +kernel
theorem dLaw_byteOf_8 : decode mLaw_byteOf.2.1 8 = .ok (.i2l, 1) := by decide +kernel
theorem dLaw_byteOf_9 : decode mLaw_byteOf.2.1 9 = .ok (.lastore, 1) := by decide +kernel
theorem dLaw_byteOf_10 : decode mLaw_byteOf.2.1 10 = .ok (.goto 19, 3) := by decide +kernel
theorem dLaw_byteOf_13 : decode mLaw_byteOf.2.1 13 = .ok (.astore 4, 2) := by decide +kernel
theorem dLaw_byteOf_15 : decode mLaw_byteOf.2.1 15 = .ok (.iconst 1, 1) := by decide +kernel
theorem dLaw_byteOf_16 : decode mLaw_byteOf.2.1 16 = .ok (.ireturn, 1) := by decide +kernel
theorem dLaw_byteOf_17 : decode mLaw_byteOf.2.1 17 = .ok (.astore 4, 2) := by decide +kernel
theorem dLaw_byteOf_19 : decode mLaw_byteOf.2.1 19 = .ok (.iconst 2, 1) := by decide +kernel
theorem dLaw_byteOf_20 : decode mLaw_byteOf.2.1 20 = .ok (.ireturn, 1) := by decide +kernel
theorem dLaw_byteOf_21 : decode mLaw_byteOf.2.1 21 = .ok (.astore 4, 2) := by decide +kernel
theorem dLaw_byteOf_23 : decode mLaw_byteOf.2.1 23 = .ok (.iconst 3, 1) := by decide +kernel
theorem dLaw_byteOf_24 : decode mLaw_byteOf.2.1 24 = .ok (.ireturn, 1) := by decide +kernel
theorem dLaw_byteOf_25 : decode mLaw_byteOf.2.1 25 = .ok (.astore 4, 2) := by decide +kernel
theorem dLaw_byteOf_27 : decode mLaw_byteOf.2.1 27 = .ok (.iconst 4, 1) := by decide +kernel
theorem dLaw_byteOf_28 : decode mLaw_byteOf.2.1 28 = .ok (.ireturn, 1) := by decide +kernel
theorem dLaw_byteOf_29 : decode mLaw_byteOf.2.1 29 = .ok (.iconst 0, 1) := by decide +kernel
theorem dLaw_byteOf_30 : decode mLaw_byteOf.2.1 30 = .ok (.ireturn, 1) := by decide +kernel
theorem dLaw_reduce_0 : decode mLaw_reduce.2.1 0 = .ok (.aload_n 1, 1) := by decide +kernel
theorem dLaw_reduce_1 : decode mLaw_reduce.2.1 1 = .ok (.iconst 0, 1) := by decide +kernel
theorem dLaw_reduce_2 : decode mLaw_reduce.2.1 2 = .ok (.aload_n 0, 1) := by decide +kernel
theorem dLaw_reduce_3 : decode mLaw_reduce.2.1 3 = .ok (.invokevirtual 39, 3) := by decide +kernel
theorem dLaw_reduce_6 : decode mLaw_reduce.2.1 6 = .ok (.i2l, 1) := by decide +kernel
theorem dLaw_reduce_7 : decode mLaw_reduce.2.1 7 = .ok (.lastore, 1) := by decide +kernel
theorem dLaw_reduce_8 : decode mLaw_reduce.2.1 8 = .ok (.goto 6, 3) := by decide +kernel
theorem dLaw_reduce_11 : decode mLaw_reduce.2.1 11 = .ok (.astore_n 2, 1) := by decide +kernel
theorem dLaw_reduce_12 : decode mLaw_reduce.2.1 12 = .ok (.iconst 1, 1) := by decide +kernel
theorem dLaw_reduce_13 : decode mLaw_reduce.2.1 13 = .ok (.ireturn, 1) := by decide +kernel
theorem dLaw_reduce_14 : decode mLaw_reduce.2.1 14 = .ok (.iconst 0, 1) := by decide +kernel
theorem dLaw_reduce_15 : decode mLaw_reduce.2.1 15 = .ok (.ireturn, 1) := by decide +kernel
theorem dLaw_write_0 : decode mLaw_write.2.1 0 = .ok (.aload_n 1, 1) := by decide +kernel
theorem dLaw_write_1 : decode mLaw_write.2.1 1 = .ok (.iconst 0, 1) := by decide +kernel
theorem dLaw_write_2 : decode mLaw_write.2.1 2 = .ok (.aload_n 0, 1) := by decide +kernel
theorem dLaw_write_3 : decode mLaw_write.2.1 3 = .ok (.invokevirtual 43, 3) := by decide +kernel
theorem dLaw_write_6 : decode mLaw_write.2.1 6 = .ok (.i2l, 1) := by decide +kernel
theorem dLaw_write_7 : decode mLaw_write.2.1 7 = .ok (.lastore, 1) := by decide +kernel
theorem dLaw_write_8 : decode mLaw_write.2.1 8 = .ok (.goto 6, 3) := by decide +kernel
theorem dLaw_write_11 : decode mLaw_write.2.1 11 = .ok (.astore_n 2, 1) := by decide +kernel
theorem dLaw_write_12 : decode mLaw_write.2.1 12 = .ok (.iconst 1, 1) := by decide +kernel
theorem dLaw_write_13 : decode mLaw_write.2.1 13 = .ok (.ireturn, 1) := by decide +kernel
theorem dLaw_write_14 : decode mLaw_write.2.1 14 = .ok (.iconst 0, 1) := by decide +kernel
theorem dLaw_write_15 : decode mLaw_write.2.1 15 = .ok (.ireturn, 1) := by decide +kernel
theorem dLaw_byteAt_0 : decode mLaw_byteAt.2.1 0 = .ok (.aload_n 2, 1) := by decide +kernel
theorem dLaw_byteAt_1 : decode mLaw_byteAt.2.1 1 = .ok (.iconst 0, 1) := by decide +kernel
theorem dLaw_byteAt_2 : decode mLaw_byteAt.2.1 2 = .ok (.aload_n 0, 1) := by decide +kernel
theorem dLaw_byteAt_3 : decode mLaw_byteAt.2.1 3 = .ok (.iload_n 1, 1) := by decide +kernel
theorem dLaw_byteAt_4 : decode mLaw_byteAt.2.1 4 = .ok (.invokevirtual 46, 3) := by decide +kernel
theorem dLaw_byteAt_7 : decode mLaw_byteAt.2.1 7 = .ok (.i2l, 1) := by decide +kernel
theorem dLaw_byteAt_8 : decode mLaw_byteAt.2.1 8 = .ok (.lastore, 1) := by decide +kernel
theorem dLaw_byteAt_9 : decode mLaw_byteAt.2.1 9 = .ok (.goto 6, 3) := by decide +kernel
theorem dLaw_byteAt_12 : decode mLaw_byteAt.2.1 12 = .ok (.astore_n 3, 1) := by decide +kernel
theorem dLaw_byteAt_13 : decode mLaw_byteAt.2.1 13 = .ok (.iconst 1, 1) := by decide +kernel
theorem dLaw_byteAt_14 : decode mLaw_byteAt.2.1 14 = .ok (.ireturn, 1) := by decide +kernel
theorem dLaw_byteAt_15 : decode mLaw_byteAt.2.1 15 = .ok (.iconst 0, 1) := by decide +kernel
theorem dLaw_byteAt_16 : decode mLaw_byteAt.2.1 16 = .ok (.ireturn, 1) := by decide +kernel
theorem dLaw_feed_0 : decode mLaw_feed.2.1 0 = .ok (.aload_n 2, 1) := by decide +kernel
theorem dLaw_feed_1 : decode mLaw_feed.2.1 1 = .ok (.iconst 0, 1) := by decide +kernel
theorem dLaw_feed_2 : decode mLaw_feed.2.1 2 = .ok (.aload_n 0, 1) := by decide +kernel
theorem dLaw_feed_3 : decode mLaw_feed.2.1 3 = .ok (.iload_n 1, 1) := by decide +kernel
theorem dLaw_feed_4 : decode mLaw_feed.2.1 4 = .ok (.invokevirtual 49, 3) := by decide +kernel
theorem dLaw_feed_7 : decode mLaw_feed.2.1 7 = .ok (.i2l, 1) := by decide +kernel
theorem dLaw_feed_8 : decode mLaw_feed.2.1 8 = .ok (.lastore, 1) := by decide +kernel
theorem dLaw_feed_9 : decode mLaw_feed.2.1 9 = .ok (.goto 9, 3) := by decide +kernel
theorem dLaw_feed_12 : decode mLaw_feed.2.1 12 = .ok (.astore_n 3, 1) := by decide +kernel
theorem dLaw_feed_13 : decode mLaw_feed.2.1 13 = .ok (.iconst 1, 1) := by decide +kernel
theorem dLaw_feed_14 : decode mLaw_feed.2.1 14 = .ok (.ireturn, 1) := by decide +kernel
theorem dLaw_feed_15 : decode mLaw_feed.2.1 15 = .ok (.astore_n 3, 1) := by decide +kernel
theorem dLaw_feed_16 : decode mLaw_feed.2.1 16 = .ok (.iconst 2, 1) := by decide +kernel
theorem dLaw_feed_17 : decode mLaw_feed.2.1 17 = .ok (.ireturn, 1) := by decide +kernel
theorem dLaw_feed_18 : decode mLaw_feed.2.1 18 = .ok (.iconst 0, 1) := by decide +kernel
theorem dLaw_feed_19 : decode mLaw_feed.2.1 19 = .ok (.ireturn, 1) := by decide +kernel
theorem dLaw_pass_0 : decode mLaw_pass.2.1 0 = .ok (.aload_n 3, 1) := by decide +kernel
theorem dLaw_pass_1 : decode mLaw_pass.2.1 1 = .ok (.iconst 0, 1) := by decide +kernel
theorem dLaw_pass_2 : decode mLaw_pass.2.1 2 = .ok (.aload_n 0, 1) := by decide +kernel
theorem dLaw_pass_3 : decode mLaw_pass.2.1 3 = .ok (.iload_n 1, 1) := by decide +kernel
theorem dLaw_pass_4 : decode mLaw_pass.2.1 4 = .ok (.iload_n 2, 1) := by decide +kernel
theorem dLaw_pass_5 : decode mLaw_pass.2.1 5 = .ok (.invokevirtual 52, 3) := by decide +kernel
theorem dLaw_pass_8 : decode mLaw_pass.2.1 8 = .ok (.i2l, 1) := by decide +kernel
theorem dLaw_pass_9 : decode mLaw_pass.2.1 9 = .ok (.lastore, 1) := by decide +kernel
theorem dLaw_pass_10 : decode mLaw_pass.2.1 10 = .ok (.goto 15, 3) := by decide +kernel
theorem dLaw_pass_13 : decode mLaw_pass.2.1 13 = .ok (.astore 4, 2) := by decide +kernel
theorem dLaw_pass_15 : decode mLaw_pass.2.1 15 = .ok (.iconst 1, 1) := by decide +kernel
theorem dLaw_pass_16 : decode mLaw_pass.2.1 16 = .ok (.ireturn, 1) := by decide +kernel
theorem dLaw_pass_17 : decode mLaw_pass.2.1 17 = .ok (.astore 4, 2) := by decide +kernel
theorem dLaw_pass_19 : decode mLaw_pass.2.1 19 = .ok (.iconst 2, 1) := by decide +kernel
theorem dLaw_pass_20 : decode mLaw_pass.2.1 20 = .ok (.ireturn, 1) := by decide +kernel
theorem dLaw_pass_21 : decode mLaw_pass.2.1 21 = .ok (.astore 4, 2) := by decide +kernel
theorem dLaw_pass_23 : decode mLaw_pass.2.1 23 = .ok (.iconst 3, 1) := by decide +kernel
theorem dLaw_pass_24 : decode mLaw_pass.2.1 24 = .ok (.ireturn, 1) := by decide +kernel
theorem dLaw_pass_25 : decode mLaw_pass.2.1 25 = .ok (.iconst 0, 1) := by decide +kernel
theorem dLaw_pass_26 : decode mLaw_pass.2.1 26 = .ok (.ireturn, 1) := by decide +kernel
theorem dLaw_alter_0 : decode mLaw_alter.2.1 0 = .ok (.aload 4, 2) := by decide +kernel
theorem dLaw_alter_2 : decode mLaw_alter.2.1 2 = .ok (.iconst 0, 1) := by decide +kernel
theorem dLaw_alter_3 : decode mLaw_alter.2.1 3 = .ok (.aload_n 0, 1) := by decide +kernel
theorem dLaw_alter_4 : decode mLaw_alter.2.1 4 = .ok (.iload_n 1, 1) := by decide +kernel
theorem dLaw_alter_5 : decode mLaw_alter.2.1 5 = .ok (.iload_n 2, 1) := by decide +kernel
theorem dLaw_alter_6 : decode mLaw_alter.2.1 6 = .ok (.iload_n 3, 1) := by decide +kernel
theorem dLaw_alter_7 : decode mLaw_alter.2.1 7 = .ok (.invokevirtual 55, 3) := by decide +kernel
theorem dLaw_alter_10 : decode mLaw_alter.2.1 10 = .ok (.i2l, 1) := by decide +kernel
theorem dLaw_alter_11 : decode mLaw_alter.2.1 11 = .ok (.lastore, 1) := by decide +kernel
theorem dLaw_alter_12 : decode mLaw_alter.2.1 12 = .ok (.goto 11, 3) := by decide +kernel
theorem dLaw_alter_15 : decode mLaw_alter.2.1 15 = .ok (.astore 5, 2) := by decide +kernel
theorem dLaw_alter_17 : decode mLaw_alter.2.1 17 = .ok (.iconst 1, 1) := by decide +kernel
theorem dLaw_alter_18 : decode mLaw_alter.2.1 18 = .ok (.ireturn, 1) := by decide +kernel
theorem dLaw_alter_19 : decode mLaw_alter.2.1 19 = .ok (.astore 5, 2) := by decide +kernel
theorem dLaw_alter_21 : decode mLaw_alter.2.1 21 = .ok (.iconst 2, 1) := by decide +kernel
theorem dLaw_alter_22 : decode mLaw_alter.2.1 22 = .ok (.ireturn, 1) := by decide +kernel
theorem dLaw_alter_23 : decode mLaw_alter.2.1 23 = .ok (.iconst 0, 1) := by decide +kernel
theorem dLaw_alter_24 : decode mLaw_alter.2.1 24 = .ok (.ireturn, 1) := by decide +kernel
theorem dLaw_at_0 : decode mLaw_at.2.1 0 = .ok (.aload 4, 2) := by decide +kernel
theorem dLaw_at_2 : decode mLaw_at.2.1 2 = .ok (.iconst 0, 1) := by decide +kernel
theorem dLaw_at_3 : decode mLaw_at.2.1 3 = .ok (.aload_n 0, 1) := by decide +kernel
theorem dLaw_at_4 : decode mLaw_at.2.1 4 = .ok (.iload_n 1, 1) := by decide +kernel
theorem dLaw_at_5 : decode mLaw_at.2.1 5 = .ok (.iload_n 2, 1) := by decide +kernel
theorem dLaw_at_6 : decode mLaw_at.2.1 6 = .ok (.iload_n 3, 1) := by decide +kernel
theorem dLaw_at_7 : decode mLaw_at.2.1 7 = .ok (.invokevirtual 59, 3) := by decide +kernel
theorem dLaw_at_10 : decode mLaw_at.2.1 10 = .ok (.i2l, 1) := by decide +kernel
theorem dLaw_at_11 : decode mLaw_at.2.1 11 = .ok (.lastore, 1) := by decide +kernel
theorem dLaw_at_12 : decode mLaw_at.2.1 12 = .ok (.goto 11, 3) := by decide +kernel
theorem dLaw_at_15 : decode mLaw_at.2.1 15 = .ok (.astore 5, 2) := by decide +kernel
theorem dLaw_at_17 : decode mLaw_at.2.1 17 = .ok (.iconst 1, 1) := by decide +kernel
theorem dLaw_at_18 : decode mLaw_at.2.1 18 = .ok (.ireturn, 1) := by decide +kernel
theorem dLaw_at_19 : decode mLaw_at.2.1 19 = .ok (.astore 5, 2) := by decide +kernel
theorem dLaw_at_21 : decode mLaw_at.2.1 21 = .ok (.iconst 2, 1) := by decide +kernel
theorem dLaw_at_22 : decode mLaw_at.2.1 22 = .ok (.ireturn, 1) := by decide +kernel
theorem dLaw_at_23 : decode mLaw_at.2.1 23 = .ok (.iconst 0, 1) := by decide +kernel
theorem dLaw_at_24 : decode mLaw_at.2.1 24 = .ok (.ireturn, 1) := by decide +kernel
theorem dLaw_found_0 : decode mLaw_found.2.1 0 = .ok (.aload_n 2, 1) := by decide +kernel
theorem dLaw_found_1 : decode mLaw_found.2.1 1 = .ok (.iconst 0, 1) := by decide +kernel
theorem dLaw_found_2 : decode mLaw_found.2.1 2 = .ok (.aload_n 0, 1) := by decide +kernel
theorem dLaw_found_3 : decode mLaw_found.2.1 3 = .ok (.iload_n 1, 1) := by decide +kernel
theorem dLaw_found_4 : decode mLaw_found.2.1 4 = .ok (.invokevirtual 63, 3) := by decide +kernel
theorem dLaw_found_7 : decode mLaw_found.2.1 7 = .ok (.i2l, 1) := by decide +kernel
theorem dLaw_found_8 : decode mLaw_found.2.1 8 = .ok (.lastore, 1) := by decide +kernel
theorem dLaw_found_9 : decode mLaw_found.2.1 9 = .ok (.goto 6, 3) := by decide +kernel
theorem dLaw_found_12 : decode mLaw_found.2.1 12 = .ok (.astore_n 3, 1) := by decide +kernel
theorem dLaw_found_13 : decode mLaw_found.2.1 13 = .ok (.iconst 1, 1) := by decide +kernel
theorem dLaw_found_14 : decode mLaw_found.2.1 14 = .ok (.ireturn, 1) := by decide +kernel
theorem dLaw_found_15 : decode mLaw_found.2.1 15 = .ok (.iconst 0, 1) := by decide +kernel
theorem dLaw_found_16 : decode mLaw_found.2.1 16 = .ok (.ireturn, 1) := by decide +kernel
theorem dLaw_entry_0 : decode mLaw_entry.2.1 0 = .ok (.aload_n 3, 1) := by decide +kernel
theorem dLaw_entry_1 : decode mLaw_entry.2.1 1 = .ok (.iconst 0, 1) := by decide +kernel
theorem dLaw_entry_2 : decode mLaw_entry.2.1 2 = .ok (.aload_n 0, 1) := by decide +kernel
theorem dLaw_entry_3 : decode mLaw_entry.2.1 3 = .ok (.iload_n 1, 1) := by decide +kernel
theorem dLaw_entry_4 : decode mLaw_entry.2.1 4 = .ok (.iload_n 2, 1) := by decide +kernel
theorem dLaw_entry_5 : decode mLaw_entry.2.1 5 = .ok (.invokevirtual 66, 3) := by decide +kernel
theorem dLaw_entry_8 : decode mLaw_entry.2.1 8 = .ok (.i2l, 1) := by decide +kernel
theorem dLaw_entry_9 : decode mLaw_entry.2.1 9 = .ok (.lastore, 1) := by decide +kernel
theorem dLaw_entry_10 : decode mLaw_entry.2.1 10 = .ok (.goto 15, 3) := by decide +kernel
theorem dLaw_entry_13 : decode mLaw_entry.2.1 13 = .ok (.astore 4, 2) := by decide +kernel
theorem dLaw_entry_15 : decode mLaw_entry.2.1 15 = .ok (.iconst 1, 1) := by decide +kernel
theorem dLaw_entry_16 : decode mLaw_entry.2.1 16 = .ok (.ireturn, 1) := by decide +kernel
theorem dLaw_entry_17 : decode mLaw_entry.2.1 17 = .ok (.astore 4, 2) := by decide +kernel
theorem dLaw_entry_19 : decode mLaw_entry.2.1 19 = .ok (.iconst 2, 1) := by decide +kernel
theorem dLaw_entry_20 : decode mLaw_entry.2.1 20 = .ok (.ireturn, 1) := by decide +kernel
theorem dLaw_entry_21 : decode mLaw_entry.2.1 21 = .ok (.astore 4, 2) := by decide +kernel
theorem dLaw_entry_23 : decode mLaw_entry.2.1 23 = .ok (.iconst 3, 1) := by decide +kernel
theorem dLaw_entry_24 : decode mLaw_entry.2.1 24 = .ok (.ireturn, 1) := by decide +kernel
theorem dLaw_entry_25 : decode mLaw_entry.2.1 25 = .ok (.iconst 0, 1) := by decide +kernel
theorem dLaw_entry_26 : decode mLaw_entry.2.1 26 = .ok (.ireturn, 1) := by decide +kernel
theorem dLaw_unknown_0 : decode mLaw_unknown.2.1 0 = .ok (.aload_n 3, 1) := by decide +kernel
theorem dLaw_unknown_1 : decode mLaw_unknown.2.1 1 = .ok (.iconst 0, 1) := by decide +kernel
theorem dLaw_unknown_2 : decode mLaw_unknown.2.1 2 = .ok (.aload_n 0, 1) := by decide +kernel
theorem dLaw_unknown_3 : decode mLaw_unknown.2.1 3 = .ok (.iload_n 1, 1) := by decide +kernel
theorem dLaw_unknown_4 : decode mLaw_unknown.2.1 4 = .ok (.iload_n 2, 1) := by decide +kernel
theorem dLaw_unknown_5 : decode mLaw_unknown.2.1 5 = .ok (.invokevirtual 69, 3) := by decide +kernel
theorem dLaw_unknown_8 : decode mLaw_unknown.2.1 8 = .ok (.i2l, 1) := by decide +kernel
theorem dLaw_unknown_9 : decode mLaw_unknown.2.1 9 = .ok (.lastore, 1) := by decide +kernel
theorem dLaw_unknown_10 : decode mLaw_unknown.2.1 10 = .ok (.goto 11, 3) := by decide +kernel
theorem dLaw_unknown_13 : decode mLaw_unknown.2.1 13 = .ok (.astore 4, 2) := by decide +kernel
theorem dLaw_unknown_15 : decode mLaw_unknown.2.1 15 = .ok (.iconst 1, 1) := by decide +kernel
theorem dLaw_unknown_16 : decode mLaw_unknown.2.1 16 = .ok (.ireturn, 1) := by decide +kernel
theorem dLaw_unknown_17 : decode mLaw_unknown.2.1 17 = .ok (.astore 4, 2) := by decide +kernel
theorem dLaw_unknown_19 : decode mLaw_unknown.2.1 19 = .ok (.iconst 2, 1) := by decide +kernel
theorem dLaw_unknown_20 : decode mLaw_unknown.2.1 20 = .ok (.ireturn, 1) := by decide +kernel
theorem dLaw_unknown_21 : decode mLaw_unknown.2.1 21 = .ok (.iconst 0, 1) := by decide +kernel
theorem dLaw_unknown_22 : decode mLaw_unknown.2.1 22 = .ok (.ireturn, 1) := by decide +kernel
theorem dLaw_take_0 : decode mLaw_take.2.1 0 = .ok (.aload_n 0, 1) := by decide +kernel
theorem dLaw_take_1 : decode mLaw_take.2.1 1 = .ok (.invokevirtual 72, 3) := by decide +kernel
theorem dLaw_take_4 : decode mLaw_take.2.1 4 = .ok (.goto 6, 3) := by decide +kernel
theorem dLaw_take_7 : decode mLaw_take.2.1 7 = .ok (.astore_n 1, 1) := by decide +kernel
theorem dLaw_take_8 : decode mLaw_take.2.1 8 = .ok (.iconst 1, 1) := by decide +kernel
theorem dLaw_take_9 : decode mLaw_take.2.1 9 = .ok (.ireturn, 1) := by decide +kernel
theorem dLaw_take_10 : decode mLaw_take.2.1 10 = .ok (.iconst 0, 1) := by decide +kernel
theorem dLaw_take_11 : decode mLaw_take.2.1 11 = .ok (.ireturn, 1) := by decide +kernel
theorem dArrays_fill_0 : decode mArrays_fill.2.1 0 = .ok (.iconst 0, 1) := by decide +kernel
theorem dArrays_fill_1 : decode mArrays_fill.2.1 1 = .ok (.istore_n 2, 1) := by decide +kernel
theorem dArrays_fill_2 : decode mArrays_fill.2.1 2 = .ok (.aload_n 0, 1) := by decide +kernel
theorem dArrays_fill_3 : decode mArrays_fill.2.1 3 = .ok (.arraylength, 1) := by decide +kernel
theorem dArrays_fill_4 : decode mArrays_fill.2.1 4 = .ok (.istore_n 3, 1) := by decide +kernel
theorem dArrays_fill_5 : decode mArrays_fill.2.1 5 = .ok (.iload_n 2, 1) := by decide +kernel
theorem dArrays_fill_6 : decode mArrays_fill.2.1 6 = .ok (.iload_n 3, 1) := by decide +kernel
theorem dArrays_fill_7 : decode mArrays_fill.2.1 7 = .ok (.if_icmp .ge 13, 3) := by decide +kernel
theorem dArrays_fill_10 : decode mArrays_fill.2.1 10 = .ok (.aload_n 0, 1) := by decide +kernel
theorem dArrays_fill_11 : decode mArrays_fill.2.1 11 = .ok (.iload_n 2, 1) := by decide +kernel
theorem dArrays_fill_12 : decode mArrays_fill.2.1 12 = .ok (.iload_n 1, 1) := by decide +kernel
theorem dArrays_fill_13 : decode mArrays_fill.2.1 13 = .ok (.iastore, 1) := by decide +kernel
theorem dArrays_fill_14 : decode mArrays_fill.2.1 14 = .ok (.iinc 2 1, 3) := by decide +kernel
theorem dArrays_fill_17 : decode mArrays_fill.2.1 17 = .ok (.goto (-12), 3) := by decide +kernel
theorem dArrays_fill_20 : decode mArrays_fill.2.1 20 = .ok (.return_, 1) := by decide +kernel
theorem dMath_min_0 : decode mMath_min.2.1 0 = .ok (.iload_n 0, 1) := by decide +kernel
theorem dMath_min_1 : decode mMath_min.2.1 1 = .ok (.iload_n 1, 1) := by decide +kernel
theorem dMath_min_2 : decode mMath_min.2.1 2 = .ok (.if_icmp .gt 7, 3) := by decide +kernel
theorem dMath_min_5 : decode mMath_min.2.1 5 = .ok (.iload_n 0, 1) := by decide +kernel
theorem dMath_min_6 : decode mMath_min.2.1 6 = .ok (.goto 4, 3) := by decide +kernel
theorem dMath_min_9 : decode mMath_min.2.1 9 = .ok (.iload_n 1, 1) := by decide +kernel
theorem dMath_min_10 : decode mMath_min.2.1 10 = .ok (.ireturn, 1) := by decide +kernel
